section
-- ===== PART A: goes FIRST, ahead of the names: the tables' words, and 'selects' of the private methods out of them =====
/-- a private method of a class that the tables say can be made, by its rows of tables_1 -/
def lw_okq (q : MethodName × Nat) : Prop := (q.1.cls ≠ "java/lang/invoke/MethodHandle" ∧ q.1.cls ≠ "java/lang/invoke/VarHandle") ∧ Cond.instantiable q.1.cls q.2 ∈ tables_1 ∧ Cond.privateMethod q.1 ∈ tables_1 ∧ Cond.instanceMethod q.1 ∈ tables_1
theorem lw_p0 : lw_okq (⟨"Queuefloat", "goThroughBanks", "()I"⟩, 12) := ⟨⟨by decide +kernel, by decide +kernel⟩, List.mem_of_getElem? (i := 17) (by decide +kernel), List.mem_of_getElem? (i := 165) (by decide +kernel), List.mem_of_getElem? (i := 166) (by decide +kernel)⟩
theorem lw_p1 : lw_okq (⟨"Queuefloat", "nextToGo", "(I)I"⟩, 12) := ⟨⟨by decide +kernel, by decide +kernel⟩, List.mem_of_getElem? (i := 17) (by decide +kernel), List.mem_of_getElem? (i := 169) (by decide +kernel), List.mem_of_getElem? (i := 170) (by decide +kernel)⟩
theorem lw_p2 : lw_okq (⟨"Queuefloat", "obstacle", "(I)I"⟩, 12) := ⟨⟨by decide +kernel, by decide +kernel⟩, List.mem_of_getElem? (i := 17) (by decide +kernel), List.mem_of_getElem? (i := 181) (by decide +kernel), List.mem_of_getElem? (i := 182) (by decide +kernel)⟩
theorem lw_p3 : lw_okq (⟨"Queuefloat", "firstSmallFree", "(I)I"⟩, 12) := ⟨⟨by decide +kernel, by decide +kernel⟩, List.mem_of_getElem? (i := 17) (by decide +kernel), List.mem_of_getElem? (i := 188) (by decide +kernel), List.mem_of_getElem? (i := 189) (by decide +kernel)⟩
theorem lw_p4 : lw_okq (⟨"Queuefloat", "send", "(I)V"⟩, 12) := ⟨⟨by decide +kernel, by decide +kernel⟩, List.mem_of_getElem? (i := 17) (by decide +kernel), List.mem_of_getElem? (i := 193) (by decide +kernel), List.mem_of_getElem? (i := 194) (by decide +kernel)⟩
theorem lw_p5 : lw_okq (⟨"Queuefloat", "sendLargestSet", "()I"⟩, 12) := ⟨⟨by decide +kernel, by decide +kernel⟩, List.mem_of_getElem? (i := 17) (by decide +kernel), List.mem_of_getElem? (i := 210) (by decide +kernel), List.mem_of_getElem? (i := 211) (by decide +kernel)⟩
theorem lw_p6 : lw_okq (⟨"Queuefloat", "canGoTogether", "(II)Z"⟩, 12) := ⟨⟨by decide +kernel, by decide +kernel⟩, List.mem_of_getElem? (i := 17) (by decide +kernel), List.mem_of_getElem? (i := 220) (by decide +kernel), List.mem_of_getElem? (i := 221) (by decide +kernel)⟩
theorem lw_p7 : lw_okq (⟨"Queuefloat", "canRepay", "(I)Z"⟩, 12) := ⟨⟨by decide +kernel, by decide +kernel⟩, List.mem_of_getElem? (i := 17) (by decide +kernel), List.mem_of_getElem? (i := 250) (by decide +kernel), List.mem_of_getElem? (i := 251) (by decide +kernel)⟩
theorem lw_p8 : lw_okq (⟨"Queuefloat", "repay", "(I)V"⟩, 12) := ⟨⟨by decide +kernel, by decide +kernel⟩, List.mem_of_getElem? (i := 17) (by decide +kernel), List.mem_of_getElem? (i := 254) (by decide +kernel), List.mem_of_getElem? (i := 255) (by decide +kernel)⟩
theorem lw_p9 : lw_okq (⟨"Queuefloat", "close", "(I)I"⟩, 12) := ⟨⟨by decide +kernel, by decide +kernel⟩, List.mem_of_getElem? (i := 17) (by decide +kernel), List.mem_of_getElem? (i := 259) (by decide +kernel), List.mem_of_getElem? (i := 260) (by decide +kernel)⟩
theorem lw_p10 : lw_okq (⟨"Queuefloat", "sellPledge", "(I)V"⟩, 12) := ⟨⟨by decide +kernel, by decide +kernel⟩, List.mem_of_getElem? (i := 17) (by decide +kernel), List.mem_of_getElem? (i := 267) (by decide +kernel), List.mem_of_getElem? (i := 268) (by decide +kernel)⟩
theorem lw_p11 : lw_okq (⟨"java/lang/Throwable", "fillInStackTrace", "(I)Ljava/lang/Throwable;"⟩, 6) := ⟨⟨by decide +kernel, by decide +kernel⟩, List.mem_of_getElem? (i := 329) (by decide +kernel), List.mem_of_getElem? (i := 327) (by decide +kernel), List.mem_of_getElem? (i := 328) (by decide +kernel)⟩
theorem lw_p12 : lw_okq (⟨"Queuefloat", "requireOpen", "(I)V"⟩, 12) := ⟨⟨by decide +kernel, by decide +kernel⟩, List.mem_of_getElem? (i := 17) (by decide +kernel), List.mem_of_getElem? (i := 379) (by decide +kernel), List.mem_of_getElem? (i := 380) (by decide +kernel)⟩
theorem lw_p13 : lw_okq (⟨"Queuefloat", "requirePayment", "(I)V"⟩, 12) := ⟨⟨by decide +kernel, by decide +kernel⟩, List.mem_of_getElem? (i := 17) (by decide +kernel), List.mem_of_getElem? (i := 479) (by decide +kernel), List.mem_of_getElem? (i := 480) (by decide +kernel)⟩
theorem lw_p14 : lw_okq (⟨"Queuefloat", "listWaiting", "()I"⟩, 12) := ⟨⟨by decide +kernel, by decide +kernel⟩, List.mem_of_getElem? (i := 17) (by decide +kernel), List.mem_of_getElem? (i := 519) (by decide +kernel), List.mem_of_getElem? (i := 520) (by decide +kernel)⟩
theorem lw_p15 : lw_okq (⟨"Queuefloat", "requireLoanable", "(IIII)V"⟩, 12) := ⟨⟨by decide +kernel, by decide +kernel⟩, List.mem_of_getElem? (i := 17) (by decide +kernel), List.mem_of_getElem? (i := 537) (by decide +kernel), List.mem_of_getElem? (i := 538) (by decide +kernel)⟩
def lw_privs_1 : List (MethodName × Nat) := [(⟨"Queuefloat", "goThroughBanks", "()I"⟩, 12), (⟨"Queuefloat", "nextToGo", "(I)I"⟩, 12), (⟨"Queuefloat", "obstacle", "(I)I"⟩, 12), (⟨"Queuefloat", "firstSmallFree", "(I)I"⟩, 12), (⟨"Queuefloat", "send", "(I)V"⟩, 12), (⟨"Queuefloat", "sendLargestSet", "()I"⟩, 12), (⟨"Queuefloat", "canGoTogether", "(II)Z"⟩, 12), (⟨"Queuefloat", "canRepay", "(I)Z"⟩, 12), (⟨"Queuefloat", "repay", "(I)V"⟩, 12), (⟨"Queuefloat", "close", "(I)I"⟩, 12), (⟨"Queuefloat", "sellPledge", "(I)V"⟩, 12), (⟨"java/lang/Throwable", "fillInStackTrace", "(I)Ljava/lang/Throwable;"⟩, 6), (⟨"Queuefloat", "requireOpen", "(I)V"⟩, 12), (⟨"Queuefloat", "requirePayment", "(I)V"⟩, 12), (⟨"Queuefloat", "listWaiting", "()I"⟩, 12), (⟨"Queuefloat", "requireLoanable", "(IIII)V"⟩, 12)]
theorem lw_r1 : ∀ q ∈ lw_privs_1, lw_okq q := List.forall_mem_cons.mpr ⟨lw_p0, List.forall_mem_cons.mpr ⟨lw_p1, List.forall_mem_cons.mpr ⟨lw_p2, List.forall_mem_cons.mpr ⟨lw_p3, List.forall_mem_cons.mpr ⟨lw_p4, List.forall_mem_cons.mpr ⟨lw_p5, List.forall_mem_cons.mpr ⟨lw_p6, List.forall_mem_cons.mpr ⟨lw_p7, List.forall_mem_cons.mpr ⟨lw_p8, List.forall_mem_cons.mpr ⟨lw_p9, List.forall_mem_cons.mpr ⟨lw_p10, List.forall_mem_cons.mpr ⟨lw_p11, List.forall_mem_cons.mpr ⟨lw_p12, List.forall_mem_cons.mpr ⟨lw_p13, List.forall_mem_cons.mpr ⟨lw_p14, List.forall_mem_cons.mpr ⟨lw_p15, fun _ h => absurd h List.not_mem_nil⟩⟩⟩⟩⟩⟩⟩⟩⟩⟩⟩⟩⟩⟩⟩⟩
theorem lw_p16 : lw_okq (⟨"Queuefloat", "pledgeWorth", "(I)I"⟩, 12) := ⟨⟨by decide +kernel, by decide +kernel⟩, List.mem_of_getElem? (i := 17) (by decide +kernel), List.mem_of_getElem? (i := 542) (by decide +kernel), List.mem_of_getElem? (i := 543) (by decide +kernel)⟩
theorem lw_p17 : lw_okq (⟨"QueuefloatModel", "asks", "(Z)Z"⟩, 25) := ⟨⟨by decide +kernel, by decide +kernel⟩, List.mem_of_getElem? (i := 552) (by decide +kernel), List.mem_of_getElem? (i := 646) (by decide +kernel), List.mem_of_getElem? (i := 647) (by decide +kernel)⟩
theorem lw_p18 : lw_okq (⟨"QueuefloatModel", "fails", "(I)I"⟩, 25) := ⟨⟨by decide +kernel, by decide +kernel⟩, List.mem_of_getElem? (i := 552) (by decide +kernel), List.mem_of_getElem? (i := 653) (by decide +kernel), List.mem_of_getElem? (i := 654) (by decide +kernel)⟩
theorem lw_p19 : lw_okq (⟨"QueuefloatModel", "isPayment", "(I)Z"⟩, 25) := ⟨⟨by decide +kernel, by decide +kernel⟩, List.mem_of_getElem? (i := 552) (by decide +kernel), List.mem_of_getElem? (i := 696) (by decide +kernel), List.mem_of_getElem? (i := 697) (by decide +kernel)⟩
theorem lw_p20 : lw_okq (⟨"QueuefloatModel", "waiting", "()I"⟩, 25) := ⟨⟨by decide +kernel, by decide +kernel⟩, List.mem_of_getElem? (i := 552) (by decide +kernel), List.mem_of_getElem? (i := 700) (by decide +kernel), List.mem_of_getElem? (i := 701) (by decide +kernel)⟩
theorem lw_p21 : lw_okq (⟨"QueuefloatModel", "next", "(I)I"⟩, 25) := ⟨⟨by decide +kernel, by decide +kernel⟩, List.mem_of_getElem? (i := 552) (by decide +kernel), List.mem_of_getElem? (i := 712) (by decide +kernel), List.mem_of_getElem? (i := 713) (by decide +kernel)⟩
theorem lw_p22 : lw_okq (⟨"QueuefloatModel", "at", "(II)I"⟩, 25) := ⟨⟨by decide +kernel, by decide +kernel⟩, List.mem_of_getElem? (i := 552) (by decide +kernel), List.mem_of_getElem? (i := 716) (by decide +kernel), List.mem_of_getElem? (i := 717) (by decide +kernel)⟩
theorem lw_p23 : lw_okq (⟨"QueuefloatModel", "reason", "(I)I"⟩, 25) := ⟨⟨by decide +kernel, by decide +kernel⟩, List.mem_of_getElem? (i := 552) (by decide +kernel), List.mem_of_getElem? (i := 720) (by decide +kernel), List.mem_of_getElem? (i := 721) (by decide +kernel)⟩
theorem lw_p24 : lw_okq (⟨"QueuefloatModel", "goes", "(I)V"⟩, 25) := ⟨⟨by decide +kernel, by decide +kernel⟩, List.mem_of_getElem? (i := 552) (by decide +kernel), List.mem_of_getElem? (i := 724) (by decide +kernel), List.mem_of_getElem? (i := 725) (by decide +kernel)⟩
theorem lw_p25 : lw_okq (⟨"QueuefloatModel", "moves", "(II)V"⟩, 25) := ⟨⟨by decide +kernel, by decide +kernel⟩, List.mem_of_getElem? (i := 552) (by decide +kernel), List.mem_of_getElem? (i := 728) (by decide +kernel), List.mem_of_getElem? (i := 729) (by decide +kernel)⟩
theorem lw_p26 : lw_okq (⟨"QueuefloatModel", "goTogether", "()I"⟩, 25) := ⟨⟨by decide +kernel, by decide +kernel⟩, List.mem_of_getElem? (i := 552) (by decide +kernel), List.mem_of_getElem? (i := 732) (by decide +kernel), List.mem_of_getElem? (i := 733) (by decide +kernel)⟩
theorem lw_p27 : lw_okq (⟨"QueuefloatModel", "isSet", "(I)Z"⟩, 25) := ⟨⟨by decide +kernel, by decide +kernel⟩, List.mem_of_getElem? (i := 552) (by decide +kernel), List.mem_of_getElem? (i := 736) (by decide +kernel), List.mem_of_getElem? (i := 737) (by decide +kernel)⟩
theorem lw_p28 : lw_okq (⟨"QueuefloatModel", "firsts", "(I)V"⟩, 25) := ⟨⟨by decide +kernel, by decide +kernel⟩, List.mem_of_getElem? (i := 552) (by decide +kernel), List.mem_of_getElem? (i := 740) (by decide +kernel), List.mem_of_getElem? (i := 741) (by decide +kernel)⟩
theorem lw_p29 : lw_okq (⟨"QueuefloatModel", "isSound", "()Z"⟩, 25) := ⟨⟨by decide +kernel, by decide +kernel⟩, List.mem_of_getElem? (i := 552) (by decide +kernel), List.mem_of_getElem? (i := 744) (by decide +kernel), List.mem_of_getElem? (i := 745) (by decide +kernel)⟩
theorem lw_p30 : lw_okq (⟨"QueuefloatModel", "moveSet", "(II)V"⟩, 25) := ⟨⟨by decide +kernel, by decide +kernel⟩, List.mem_of_getElem? (i := 552) (by decide +kernel), List.mem_of_getElem? (i := 760) (by decide +kernel), List.mem_of_getElem? (i := 761) (by decide +kernel)⟩
theorem lw_p31 : lw_okq (⟨"QueuefloatModel", "ends", "(I)Z"⟩, 25) := ⟨⟨by decide +kernel, by decide +kernel⟩, List.mem_of_getElem? (i := 552) (by decide +kernel), List.mem_of_getElem? (i := 781) (by decide +kernel), List.mem_of_getElem? (i := 782) (by decide +kernel)⟩
def lw_privs_2 : List (MethodName × Nat) := [(⟨"Queuefloat", "pledgeWorth", "(I)I"⟩, 12), (⟨"QueuefloatModel", "asks", "(Z)Z"⟩, 25), (⟨"QueuefloatModel", "fails", "(I)I"⟩, 25), (⟨"QueuefloatModel", "isPayment", "(I)Z"⟩, 25), (⟨"QueuefloatModel", "waiting", "()I"⟩, 25), (⟨"QueuefloatModel", "next", "(I)I"⟩, 25), (⟨"QueuefloatModel", "at", "(II)I"⟩, 25), (⟨"QueuefloatModel", "reason", "(I)I"⟩, 25), (⟨"QueuefloatModel", "goes", "(I)V"⟩, 25), (⟨"QueuefloatModel", "moves", "(II)V"⟩, 25), (⟨"QueuefloatModel", "goTogether", "()I"⟩, 25), (⟨"QueuefloatModel", "isSet", "(I)Z"⟩, 25), (⟨"QueuefloatModel", "firsts", "(I)V"⟩, 25), (⟨"QueuefloatModel", "isSound", "()Z"⟩, 25), (⟨"QueuefloatModel", "moveSet", "(II)V"⟩, 25), (⟨"QueuefloatModel", "ends", "(I)Z"⟩, 25)]
theorem lw_r2 : ∀ q ∈ lw_privs_2, lw_okq q := List.forall_mem_cons.mpr ⟨lw_p16, List.forall_mem_cons.mpr ⟨lw_p17, List.forall_mem_cons.mpr ⟨lw_p18, List.forall_mem_cons.mpr ⟨lw_p19, List.forall_mem_cons.mpr ⟨lw_p20, List.forall_mem_cons.mpr ⟨lw_p21, List.forall_mem_cons.mpr ⟨lw_p22, List.forall_mem_cons.mpr ⟨lw_p23, List.forall_mem_cons.mpr ⟨lw_p24, List.forall_mem_cons.mpr ⟨lw_p25, List.forall_mem_cons.mpr ⟨lw_p26, List.forall_mem_cons.mpr ⟨lw_p27, List.forall_mem_cons.mpr ⟨lw_p28, List.forall_mem_cons.mpr ⟨lw_p29, List.forall_mem_cons.mpr ⟨lw_p30, List.forall_mem_cons.mpr ⟨lw_p31, fun _ h => absurd h List.not_mem_nil⟩⟩⟩⟩⟩⟩⟩⟩⟩⟩⟩⟩⟩⟩⟩⟩
theorem lw_p32 : lw_okq (⟨"QueuefloatModel", "closes", "(I)V"⟩, 25) := ⟨⟨by decide +kernel, by decide +kernel⟩, List.mem_of_getElem? (i := 552) (by decide +kernel), List.mem_of_getElem? (i := 785) (by decide +kernel), List.mem_of_getElem? (i := 786) (by decide +kernel)⟩
def lw_privs_3 : List (MethodName × Nat) := [(⟨"QueuefloatModel", "closes", "(I)V"⟩, 25)]
theorem lw_r3 : ∀ q ∈ lw_privs_3, lw_okq q := List.forall_mem_cons.mpr ⟨lw_p32, fun _ h => absurd h List.not_mem_nil⟩
def lw_privs : List (MethodName × Nat) := lw_privs_1 ++ (lw_privs_2 ++ (lw_privs_3))
def lw_tbl : List Cond := k2_sels lw_privs ++ tables_1
theorem lw_privs_ok : ∀ q ∈ lw_privs, lw_okq q := by
  show ∀ q ∈ lw_privs_1 ++ (lw_privs_2 ++ (lw_privs_3)), lw_okq q
  exact List.forall_mem_append.mpr ⟨lw_r1, List.forall_mem_append.mpr ⟨lw_r2, lw_r3⟩⟩
-- ===== end of PART A; then your names; then what follows =====
end
section
/-! ===== BEGIN words of one list among another's, by their places ===== -/
theorem goodIn_r {big : List Cond} (ws : List Cond) (ps : List Nat) (hp : ws = ps.filterMap (fun i => big[i]?)) (h : ws.all goodWord = true) : GoodIn big ws := by
  intro w hw
  have h1 := List.all_eq_true.mp h w hw
  rw [hp] at hw
  obtain ⟨i, -, hi⟩ := List.mem_filterMap.mp hw
  have hm : w ∈ big := by first | exact List.mem_of_getElem? hi | exact List.getElem?_mem hi
  exact ⟨hm, good_of_word h1⟩
theorem goodIn_app {big a b : List Cond} (ha : GoodIn big a) (hb : GoodIn big b) : GoodIn big (a ++ b) := fun w h => (List.mem_append.mp h).elim (ha w) (hb w)
theorem goodIn_ca {big a b : List Cond} {c : Cond} (ha : GoodIn big (c :: a)) (hb : GoodIn big b) : GoodIn big (c :: (a ++ b)) := fun w h => (List.mem_cons.mp h).elim (fun e => ha w (List.mem_cons.mpr (Or.inl e))) (fun h => (List.mem_append.mp h).elim (fun h => ha w (List.mem_cons.mpr (Or.inr h))) (hb w))
theorem goodIn_sub {big ws : List Cond} (hm : ∀ w ∈ ws, w ∈ big) (h : ws.all goodWord = true) : GoodIn big ws := fun w hw => ⟨hm w hw, good_of_word (List.all_eq_true.mp h w hw)⟩
/-! ===== END ===== -/

/-! ===== BEGIN exceptions that leave a method, and their catching by the caller (launches without stack traces) ===== -/
section VXA
/-! The laws vx_back, vx_callV, vx_callS, vx_callSW, vx_throw0, vx_throwS follow proofs of the library, with one case more: JvmDerived/Free/Laws.lean (Back.of_free), Shelf42/LK1.lean (callV, callS), Shelf/KitTraced.lean (throwNew0V, throwNewS). -/
/-- where a method has thrown q: the class by its name, the cell, what was written, the world -/
def vx_T (XC : String → State → State → Prop) (st : State) (q : Addr) (t : State) (mc ms : Nat) (free : Addr → Prop) : Prop :=
  ∃ (E : String) (ce : Cell) (L : List Loc), XC E st t ∧ t.heap[q]? = some ce ∧ ce.vm = .none ∧ st.vm.findClass E = some ce.cls ∧ st.WarmedH t.vm ∧ st.sameButNew ({ t with vm := st.vm } : State) L mc ms ∧ ∀ z ∈ L, free z.base
def vx_Q (Qc : Array Value → State → Outcome → State → Prop) (XC : String → State → State → Prop) (mc ms : Nat) (free : Addr → Prop) : Array Value → State → Outcome → State → Prop := fun a st o t =>
  (Qc a st o t ∧ ∃ L, FrameEnd st o t L mc ms ∧ ∀ q ∈ L, free q.base) ∨ ∃ q, o = .threw q ∧ vx_T XC st q t mc ms free
/-- a callee that returns or throws -/
def vx_Met (l : Launch) (y : MethodName) (ws : List Cond) (rm : Room) (Pc : Array Value → State → Prop) (Qc : Array Value → State → Outcome → State → Prop) (XC : String → State → State → Prop) (mc ms : Nat) (free : Addr → Prop) : Prop :=
  MetFree l y (headSpec ws rm) Pc (fun _ _ _ _ _ => True) (vx_Q Qc XC mc ms free)
def vx_Post (XC : String → State → State → Prop) (mc ms : Nat) (free : Addr → Prop) : Pt → Array Value → Addr → Pt → Prop := fun A a q B =>
  ∃ (g : JFrame) (mk : MethodId) (t : State) (L : List Loc) (E : String) (ce : Cell), B.U.heap = t.heap ∧ B.U.vm = t.vm ∧ XC E (A.U.calling g mk a) t ∧ t.heap[q]? = some ce ∧ ce.vm = .none ∧ A.U.vm.findClass E = some ce.cls ∧ B.locs = A.locs ++ L ∧ (∀ z ∈ L, free z.base) ∧ B.cells = A.cells + mc ∧ B.slots = A.slots + ms
def vx_Back (l : Launch) (R : Room) (p : Program) (e : Env) (below : List Frame) (s : State) (sargs : Array Value) (y : MethodName) (len W9 : Nat)
    (Pre : Pt → Array Value → Prop) (Post : Pt → Array Value → Option Value → Pt → Prop) (PostX : Pt → Array Value → Addr → Pt → Prop) : Prop :=
  ∀ (m : MethodId) (meth : Method) (c : Code) (A : Pt) (g : JFrame) (ig : Instr) (mk : MethodId) (a : Array Value),
    Stand p l e R s m sargs below meth c A.U A.locs A.cells A.slots → g.method = m → g.locals.size = c.maxLocals → decode c.code g.pc = .ok (ig, len) →
    2 * g.monitorRoom + (g.stack.map fun v => v.category).sum ≤ W9 → A.U.methodNamed? y = some mk → Pre A a →
    (∃ (v : Option Value) (B : Pt), Stand p l e R s m sargs below meth c B.U B.locs B.cells B.slots ∧ Post A a v B ∧
      Steps p.tables e below (doInvoke e (A.U.setTop g) [] mk a).1 (B.U.setTop { g with pc := g.pc + len, stack := v.toList ++ g.stack })) ∨
    (∃ (q : Addr) (B : Pt), Stand p l e R s m sargs below meth c B.U B.locs B.cells B.slots ∧ PostX A a q B ∧
      Steps p.tables e below (doInvoke e (A.U.setTop g) [] mk a).1 ((B.U.setTop g).pushFrame (.throwing q)))
section Payer
variable {l : Launch} {R : Room} {p : Program} {e : Env} {below : List Frame} {s : State} {sargs : Array Value} {y : MethodName} {len W9 : Nat}
theorem vx_back {ws : List Cond} {rm : Room} {Pc : Array Value → State → Prop} {Qc : Array Value → State → Outcome → State → Prop} {XC : String → State → State → Prop} {mc ms : Nat} {free : Addr → Prop} {bytes : ByteArray} {maxL : Nat} {ret : Option FieldType}
    (hM : vx_Met l y ws rm Pc Qc XC mc ms free) (hblind : FrameBlind Pc) (hrc : rm.cells = mc) (hrs : rm.slots = ms)
    (hframes : rm.frames + 1 ≤ R.frames) (hlocals : W9 + (maxL + 11) + rm.locals ≤ R.locals)
    (hws : ∀ w ∈ ws, ∀ a' U, s.WarmedH U.vm → w.before a' U = true) (hcode : Cond.code y bytes maxL ret ∈ ws) (hinit : ∀ a' U, s.WarmedH U.vm → (Cond.initialized y.cls).before a' U = true) :
    vx_Back l R p e below s sargs y len W9 (PreOf R mc ms Pc) (PostOf Qc mc ms free) (vx_Post XC mc ms free) := by
  intro m meth c A g ig mk a X hg hsize hdg hW hn hp
  have h1 : (headSpec ws rm).pre.before a A.U = true := atoms_intro fun w hw => hws w hw _ _ X.warmed
  have h2 : (Cond.code y bytes maxL ret).before a A.U = true := hws _ hcode _ _ X.warmed
  have h3 : (Cond.initialized y.cls).before a A.U = true := hinit _ _ X.warmed
  have h4 : A.cells + (headSpec ws rm).room.cells ≤ R.cells := by rw [show (headSpec ws rm).room.cells = mc from hrc]; exact hp.1
  have h5 : A.slots + (headSpec ws rm).room.slots ≤ R.slots := by rw [show (headSpec ws rm).room.slots = ms from hrs]; exact hp.2.1
  have hPc : Pc a (A.U.calling g mk a) := hblind _ _ _ _ hp.2.2
  obtain ⟨U, Ls, c0, s0⟩ := A
  dsimp only [Pt.U, Pt.locs, Pt.cells, Pt.slots] at h1 h2 h3 h4 h5 X hn hPc ⊢
  obtain ⟨methY, cY, hmY, hcY, -, hlY, -, -, -, -⟩ := Cond.code_spec hn h2
  obtain ⟨kY, hkY, -⟩ := className_of_methodNamed hn
  have hinitY : kY.init = .initialized := Cond.initialized_spec (findClass_of_methodNamed hn) hkY h3
  have h : At U g.method c below := by rw [hg]; exact X.here
  have hlocals9 : W9 + (maxL + 11) + (headSpec ws rm).room.locals ≤ R.locals := hlocals
  have happ : (headSpec ws rm).appliesLoose y e.platform (U.calling g mk a) = true :=
    Spec.appliesLoose_calling (g := g) h hdg hn hkY hinitY
      (X.room_calling (g := g) (R' := (headSpec ws rm).room) hsize hmY hcY hframes (by rw [hlY]; omega) h4 h5) h1
  obtain ⟨mid, hmid⟩ := h.above
  have hfr : (U.setTop g).frames = (.java g :: mid) ++ below := by rw [State.frames_setTop' g h.top, hmid]; rfl
  obtain ⟨o, s₂, hsteps, -, hend, hq⟩ := Steps.callFree hM p X.admits X.cas X.clock (acts := []) hfr happ hPc trivial
  have hq' : vx_Q Qc XC mc ms free a (U.calling g mk a) o s₂ := hq
  rw [State.frames_setTop' g h.top] at hend
  obtain ⟨g₀, hg0⟩ := Option.isSome_iff_exists.mp h.top
  obtain ⟨r, hr⟩ := State.topJava?_eq_some.mp hg0
  have hr' : (({ U with heap := s₂.heap, slotsUsed := s₂.slotsUsed } : State).setVm s₂.vm).frames = .java g₀ :: r := hr
  rcases hq' with ⟨hqc, L, hfe, hL⟩ | ⟨q, rfl, E, ce, L, hx, hce, hcv, hcl, hW₂, hsm, hL⟩
  · obtain ⟨⟨v, rfl⟩, hW₂, e2, q2, q3, q4, q5, q6⟩ := id hfe
    have e3 : s₂ = ({ (U.calling g mk a).setFrames s₂.frames with heap := s₂.heap, slotsUsed := s₂.slotsUsed } : State).setVm s₂.vm := by
      have : s₂ = ({ s₂ with vm := (U.calling g mk a).vm } : State).setVm s₂.vm := rfl
      rw [e2] at this
      exact this
    obtain ⟨c₂, i₂, len₂, hc₂, hd₂, hf₂⟩ := hend
    have hW' : U.WarmedH s₂.vm := hW₂
    have hcc : c₂ = c := by
      have h1 : s₂.code? g.method = U.code? g.method := by
        rw [State.code?_eq, State.code?_eq, hW'.alike.method?]
      exact Option.some.inj (hc₂.symm.trans (h1.trans h.code))
    subst hcc
    have hlen : len₂ = len := by rw [hdg] at hd₂; cases hd₂; rfl
    subst hlen
    have hs₂ : s₂ = (({ U with heap := s₂.heap, slotsUsed := s₂.slotsUsed } : State).setVm s₂.vm).setTop { g with pc := g.pc + len₂, stack := v.toList ++ g.stack } := by
      refine e3.trans ?_
      rw [hf₂, State.calling_eq h.top, State.setFrames_setFrames, State.setTop_of_frames _ hr', hr]
      rfl
    have hsame : U.sameButNew ({ U with heap := s₂.heap, slotsUsed := s₂.slotsUsed } : State) L mc ms := by
      refine ⟨?_, q2, q3, q4, q5, q6⟩
      obtain ⟨t, ht, -⟩ := State.frames_cons hr
      show ({ U with heap := s₂.heap, slotsUsed := s₂.slotsUsed } : State) = { U.setFrames U.frames with heap := s₂.heap, slotsUsed := s₂.slotsUsed }
      rw [State.setFrames_self ht]
    subst hg
    refine Or.inl ⟨v, ⟨(({ U with heap := s₂.heap, slotsUsed := s₂.slotsUsed } : State).setVm s₂.vm), Ls ++ L, c0 + mc, s0 + ms⟩,
      ⟨X.admits, X.cas, X.clock, X.frames, X.room, X.hears, X.method, X.code, (X.here.setHeapUsed s₂.heap s₂.slotsUsed).setVm hW'.alike, X.tail, State.WarmedH.trans X.warmed hW', X.limits, X.bytes, X.same.trans (hsame.setVm s.vm)⟩,
      ⟨g, mk, s₂, L, rfl, rfl, hqc, rfl, hL, rfl, rfl⟩, ?_⟩
    show Steps p.tables e below _ ((({ U with heap := s₂.heap, slotsUsed := s₂.slotsUsed } : State).setVm s₂.vm).setTop { g with pc := g.pc + len₂, stack := v.toList ++ g.stack })
    rw [← hs₂]
    exact hsteps
  · obtain ⟨e2, q2, q3, q4, q5, q6⟩ := id hsm
    have e3 : s₂ = ({ (U.calling g mk a).setFrames s₂.frames with heap := s₂.heap, slotsUsed := s₂.slotsUsed } : State).setVm s₂.vm := by
      have : s₂ = ({ s₂ with vm := (U.calling g mk a).vm } : State).setVm s₂.vm := rfl
      rw [e2] at this
      exact this
    have hf₂ : s₂.frames = .throwing q :: .java g :: U.frames.tail := hend
    have hW' : U.WarmedH s₂.vm := hW₂
    have hs₂ : s₂ = ((({ U with heap := s₂.heap, slotsUsed := s₂.slotsUsed } : State).setVm s₂.vm).setTop g).pushFrame (.throwing q) := by
      refine e3.trans ?_
      rw [hf₂, State.calling_eq h.top, State.setFrames_setFrames, State.pushFrame, State.frames_setTop _ hr', State.setTop_of_frames _ hr', State.setFrames_setFrames, hr]
      rfl
    have hsame : U.sameButNew ({ U with heap := s₂.heap, slotsUsed := s₂.slotsUsed } : State) L mc ms := by
      refine ⟨?_, q2, q3, q4, q5, q6⟩
      obtain ⟨t, ht, -⟩ := State.frames_cons hr
      show ({ U with heap := s₂.heap, slotsUsed := s₂.slotsUsed } : State) = { U.setFrames U.frames with heap := s₂.heap, slotsUsed := s₂.slotsUsed }
      rw [State.setFrames_self ht]
    subst hg
    refine Or.inr ⟨q, ⟨(({ U with heap := s₂.heap, slotsUsed := s₂.slotsUsed } : State).setVm s₂.vm), Ls ++ L, c0 + mc, s0 + ms⟩,
      ⟨X.admits, X.cas, X.clock, X.frames, X.room, X.hears, X.method, X.code, (X.here.setHeapUsed s₂.heap s₂.slotsUsed).setVm hW'.alike, X.tail, State.WarmedH.trans X.warmed hW', X.limits, X.bytes, X.same.trans (hsame.setVm s.vm)⟩,
      ⟨g, mk, s₂, L, E, ce, rfl, rfl, hx, hce, hcv, hcl, rfl, hL, rfl, rfl⟩, ?_⟩
    show Steps p.tables e below _ (((({ U with heap := s₂.heap, slotsUsed := s₂.slotsUsed } : State).setVm s₂.vm).setTop g).pushFrame (.throwing q))
    rw [← hs₂]
    exact hsteps
end Payer
section Calls
variable {p : Program} {l : Launch} {e : Env} {R : Room} {s : State} {m : MethodId} {args : Array Value} {below : List Frame} {meth : Method} {c : Code} {T : State} {locs : List Loc} {cells slots : Nat}
theorem vx_callV (X : Stand p l e R s m args below meth c T locs cells slots) (hexec : p.tables.exec = Jvm.exec) {own C : String} {index : Nat} {y : MethodName} {bytes : ByteArray} {maxL : Nat} {ret : Option FieldType}
    (hown : s.vm.findClass own = some m.cls) (hlink : (Cond.methodLink own index y).before args s = true) (hinst : (Cond.instanceMethod y).before args s = true) (hsel : (Cond.selects C y y).before args s = true)
    (hcode : (Cond.code y bytes maxL ret).before args s = true) (hy : y.cls ≠ "java/lang/invoke/MethodHandle" ∧ y.cls ≠ "java/lang/invoke/VarHandle")
    {W9 : Nat} {Pre : Pt → Array Value → Prop} {Post : Pt → Array Value → Option Value → Pt → Prop} {PostX : Pt → Array Value → Addr → Pt → Prop} (hK : vx_Back l R p e below s args y 3 W9 Pre Post PostX)
    {b : Addr} {cellB : Cell} (hcell : T.heap[b]? = some cellB) (hobj : cellB.vm.isStatics = false) (hcls : s.vm.findClass C = some cellB.cls)
    {g : JFrame} (hg : g.method = m) (hsize : g.locals.size = c.maxLocals) {argsL rest : List Value} (hlen : ∀ sig, parseMethodDescriptor y.desc = some sig → argsL.length = sig.parameters.length)
    (hstack : g.stack = argsL.reverse ++ .ref b :: rest) (hW : 2 * g.monitorRoom + (rest.map fun v => v.category).sum ≤ W9) (hdg : decode c.code g.pc = .ok (.invokevirtual index, 3))
    (hpre : ∀ vm₁, s.WarmedH vm₁ → Pre ⟨T.setVm vm₁, locs, cells, slots⟩ (Value.ref b :: argsL).toArray) :
    (∃ (v : Option Value) (vm₁ : Vm) (B : Pt), s.WarmedH vm₁ ∧ Stand p l e R s m args below meth c B.U B.locs B.cells B.slots ∧ Post ⟨T.setVm vm₁, locs, cells, slots⟩ (Value.ref b :: argsL).toArray v B ∧
      ∀ target, Steps p.tables e below (B.U.setTop { g with pc := g.pc + 3, stack := v.toList ++ rest }) target → Steps p.tables e below (T.setTop g) target) ∨
    (∃ (q : Addr) (vm₁ : Vm) (B : Pt), s.WarmedH vm₁ ∧ Stand p l e R s m args below meth c B.U B.locs B.cells B.slots ∧ PostX ⟨T.setVm vm₁, locs, cells, slots⟩ (Value.ref b :: argsL).toArray q B ∧
      Steps p.tables e below (T.setTop g) ((B.U.setTop { g with stack := rest }).pushFrame (.throwing q))) := by
  obtain ⟨mk, methM, hnamed, hmethM, hstM, habM⟩ := Cond.instanceMethod_spec hinst
  obtain ⟨methM', cM, hmethM', -, -, -, -, -, -, hsigM⟩ := Cond.code_spec hnamed hcode
  cases hmethM.symm.trans hmethM'
  obtain ⟨c2, r2, m2, q1, q2, q3, q4, kP, hkP, hkPi⟩ := Cond.selects_spec hsel
  cases hcls.symm.trans q1
  cases (State.methodFound?_of_named hnamed hy).symm.trans q2
  cases hnamed.symm.trans q3
  have hselP : selectMethod e.platform s.vm cellB.cls mk = .method mk := by rw [Launch.admits_selectMethod X.admits]; exact q4
  obtain ⟨vm₁, X₁, hstep₁⟩ := X.invokevirtual hexec hown hlink hnamed hmethM hstM hkP hkPi hy (a := b) (cell := cellB) hcell
    (fun z h => by rw [h] at hobj; cases hobj) hselP hmethM habM hkP hkPi (g := g) hg (argsL := argsL) (rest := rest) (hlen _ hsigM) hstack hdg
  rcases hK m meth c ⟨T.setVm vm₁, locs, cells, slots⟩ { g with stack := rest } (.invokevirtual index) mk (Value.ref b :: argsL).toArray X₁ hg hsize hdg hW (X₁.named hnamed) (hpre vm₁ X₁.warmed) with ⟨v, B, X', hpost, hsteps⟩ | ⟨q, B, X', hpost, hsteps⟩
  · exact Or.inl ⟨v, vm₁, B, X₁.warmed, X', hpost, fun target h => hstep₁ _ fun acts => by rw [doInvoke_state]; exact hsteps.trans h⟩
  · exact Or.inr ⟨q, vm₁, B, X₁.warmed, X', hpost, hstep₁ _ fun acts => by rw [doInvoke_state]; exact hsteps⟩
theorem vx_callS (X : Stand p l e R s m args below meth c T locs cells slots) (hexec : p.tables.exec = Jvm.exec) {own : String} {index : Nat} {y : MethodName} {bytes : ByteArray} {maxL : Nat} {ret : Option FieldType}
    (hown : s.vm.findClass own = some m.cls) (hlink : (Cond.methodLink own index y).before args s = true) (hstat : (Cond.static y).before args s = true) (hinit : (Cond.initialized y.cls).before args s = true)
    (hcode : (Cond.code y bytes maxL ret).before args s = true) (hy : y.cls ≠ "java/lang/invoke/MethodHandle" ∧ y.cls ≠ "java/lang/invoke/VarHandle")
    {W9 : Nat} {Pre : Pt → Array Value → Prop} {Post : Pt → Array Value → Option Value → Pt → Prop} {PostX : Pt → Array Value → Addr → Pt → Prop} (hK : vx_Back l R p e below s args y 3 W9 Pre Post PostX)
    {g : JFrame} (hg : g.method = m) (hsize : g.locals.size = c.maxLocals) {argsL rest : List Value} (hlen : ∀ sig, parseMethodDescriptor y.desc = some sig → argsL.length = sig.parameters.length)
    (hstack : g.stack = argsL.reverse ++ rest) (hW : 2 * g.monitorRoom + (rest.map fun v => v.category).sum ≤ W9) (hdg : decode c.code g.pc = .ok (.invokestatic index, 3))
    (hpre : ∀ vm₁, s.WarmedH vm₁ → Pre ⟨T.setVm vm₁, locs, cells, slots⟩ argsL.toArray) :
    (∃ (v : Option Value) (vm₁ : Vm) (B : Pt), s.WarmedH vm₁ ∧ Stand p l e R s m args below meth c B.U B.locs B.cells B.slots ∧ Post ⟨T.setVm vm₁, locs, cells, slots⟩ argsL.toArray v B ∧
      ∀ target, Steps p.tables e below (B.U.setTop { g with pc := g.pc + 3, stack := v.toList ++ rest }) target → Steps p.tables e below (T.setTop g) target) ∨
    (∃ (q : Addr) (vm₁ : Vm) (B : Pt), s.WarmedH vm₁ ∧ Stand p l e R s m args below meth c B.U B.locs B.cells B.slots ∧ PostX ⟨T.setVm vm₁, locs, cells, slots⟩ argsL.toArray q B ∧
      Steps p.tables e below (T.setTop g) ((B.U.setTop { g with stack := rest }).pushFrame (.throwing q))) := by
  obtain ⟨mk, hnamed⟩ := Cond.code_named hcode
  obtain ⟨methM, cM, hmethM, -, -, -, -, -, -, hsigM⟩ := Cond.code_spec hnamed hcode
  have hstatic : methM.isStatic = true := Cond.static_spec hnamed hmethM hstat
  obtain ⟨kP, hkP, -⟩ := className_of_methodNamed hnamed
  have hinitP : kP.init = .initialized := Cond.initialized_spec (findClass_of_methodNamed hnamed) hkP hinit
  obtain ⟨vm₁, X₁, hstep₁⟩ := X.invokestatic hexec hown hlink hnamed hmethM hstatic hkP hinitP hy (g := g) hg (argsL := argsL) (rest := rest) (hlen _ hsigM) hstack hdg
  rcases hK m meth c ⟨T.setVm vm₁, locs, cells, slots⟩ { g with stack := rest } (.invokestatic index) mk argsL.toArray X₁ hg hsize hdg hW (X₁.named hnamed) (hpre vm₁ X₁.warmed) with ⟨v, B, X', hpost, hsteps⟩ | ⟨q, B, X', hpost, hsteps⟩
  · exact Or.inl ⟨v, vm₁, B, X₁.warmed, X', hpost, fun target h => hstep₁ _ fun acts => by rw [doInvoke_state]; exact hsteps.trans h⟩
  · exact Or.inr ⟨q, vm₁, B, X₁.warmed, X', hpost, hstep₁ _ fun acts => by rw [doInvoke_state]; exact hsteps⟩
end Calls
theorem vx_cls {s : State} {T : State} {vm₁ : Vm} {E : String} {k : ClassId} (hW : s.WarmedH vm₁) (h : (T.setVm vm₁).vm.findClass E = some k) : s.vm.findClass E = some k := by
  have h1 : vm₁.findClass E = some k := h
  rw [hW.alike.findClass] at h1
  exact h1
/-- the method's frame g, with q thrown over it -/
def vx_W (p : Program) (l : Launch) (e : Env) (R : Room) (s : State) (m : MethodId) (args : Array Value) (below : List Frame) (meth : Method) (c : Code) (H : Heap) (locs : List Loc) (cells slots : Nat) (Q : State → Prop) (g : JFrame) (q : Addr) : Prop :=
  ∀ T : State, T.heap = H → Stand p l e R s m args below meth c T locs cells slots → ∃ t, Steps p.tables e below ((T.setTop g).pushFrame (.throwing q)) t ∧ Q t
def vx_Run (p : Program) (l : Launch) (e : Env) (R : Room) (s : State) (m : MethodId) (args : Array Value) (below : List Frame) (meth : Method) (c : Code) (H : Heap) (locs : List Loc) (cells slots mc ms : Nat) (g : JFrame) (rest : List Value) (Qa : State → Outcome → State → Prop) (XC : String → State → State → Prop) (free : Addr → Prop) : Prop :=
  ∀ T : State, T.heap = H → Stand p l e R s m args below meth c T locs cells slots →
    (∃ (v : Option Value) (st₀ t T' : State) (L : List Loc), st₀.heap = H ∧ Stand p l e R s m args below meth c T' (locs ++ L) (cells + mc) (slots + ms) ∧ (∀ q ∈ L, free q.base) ∧ T'.heap = t.heap ∧ T'.vm = t.vm ∧ Qa st₀ (.returned v) t ∧
      Goes p e below T g T' { g with pc := g.pc + 3, stack := v.toList ++ rest }) ∨
    (∃ (q : Addr) (st₀ t T' : State) (L : List Loc) (E : String) (ce : Cell), st₀.heap = H ∧ Stand p l e R s m args below meth c T' (locs ++ L) (cells + mc) (slots + ms) ∧ (∀ z ∈ L, free z.base) ∧ T'.heap = t.heap ∧ T'.vm = t.vm ∧ XC E st₀ t ∧ t.heap[q]? = some ce ∧ ce.vm = .none ∧ s.vm.findClass E = some ce.cls ∧
      Steps p.tables e below (T.setTop g) ((T'.setTop { g with stack := rest }).pushFrame (.throwing q)))
def vx_X {S : Type} (px : S → Prop) (B : String → S → State → Prop) (A : Nat → Prop) : String → State → State → Prop := fun E st t => ∃ u : S, px u ∧ B E u t ∧ va_F A st t
section Runs
variable {p : Program} {l : Launch} {e : Env} {R : Room} {s : State} {m : MethodId} {args : Array Value} {below : List Frame} {meth : Method} {c : Code} {H : Heap} {locs : List Loc} {cells slots : Nat}
variable {y : MethodName} {bytes cc : ByteArray} {maxL nL mc ms n index : Nat} {ret : Option FieldType} {ws : List Cond} {rm : Room} {Pc : Array Value → State → Prop} {Qc : Array Value → State → Outcome → State → Prop} {XC : String → State → State → Prop} {free : Addr → Prop} {Ts : List Cond} {own C : String} {b : Addr} {As rest : List Value} {g : JFrame}
theorem vx_callBack (cb : CallB R s args own index y bytes maxL ret ws rm mc ms n) (hM : vx_Met l y ws rm Pc Qc XC mc ms free) (hbl : FrameBlind Pc) : vx_Back l R p e below s args y 3 8 (PreOf R mc ms Pc) (PostOf Qc mc ms free) (vx_Post XC mc ms free) := by
  obtain ⟨hrc, hrs, hfr, hlo, hws, hcw, -, hini, -⟩ := cb
  exact vx_back (bytes := bytes) (maxL := maxL) (ret := ret) hM hbl hrc hrs hfr hlo hws hcw (fun a' U hW => word_at hW (Or.inl (by first | rfl | simp [Cond.onTables, Cond.keeps, Cond.steady])) hini)
theorem vx_runV (S : CallFix p m c cc nL s args Ts own) (hM : vx_Met l y ws rm Pc Qc XC mc ms free) (cw : CallW R s args own C index y bytes maxL ret ws rm mc ms n) (hp : PreV s H C b Pc As)
    (hg : g.method = m) (hn : As.length = n) (hsize : g.locals.size = nL) (hstack : g.stack = As.reverse ++ .ref b :: rest) (hW : 2 * g.monitorRoom + (rest.map fun v => v.category).sum ≤ 8) (hdg : decode cc g.pc = .ok (.invokevirtual index, 3)) (hf : cells + mc ≤ R.cells ∧ slots + ms ≤ R.slots) :
    vx_Run p l e R s m args below meth c H locs cells slots mc ms g rest (Qc (Value.ref b :: As).toArray) XC free := by
  have hK : vx_Back l R p e below s args y 3 8 (PreOf R mc ms Pc) (PostOf Qc mc ms free) (vx_Post XC mc ms free) := vx_callBack cw.1 hM hp.1
  obtain ⟨⟨-, -, -, -, -, -, hcode, -, hy, hlen, hl⟩, hin, hse⟩ := cw
  obtain ⟨hx, hb, hml, ho, -⟩ := S
  obtain ⟨-, ⟨cellB, hcB, hoB, hclB⟩, hPc⟩ := hp
  intro T hT X
  rcases vx_callV X hx (C := C) (bytes := bytes) (maxL := maxL) (ret := ret) ho hl hin hse hcode hy hK (by rw [hT]; exact hcB) hoB hclB hg (hsize.trans hml.symm) (argsL := As) (rest := rest) (fun sig h => hn.trans (hlen sig h)) hstack hW (by rw [hb]; exact hdg)
    (fun vm₁ hW₁ => ⟨hf.1, hf.2, hPc (T.setVm vm₁) hT hW₁⟩) with ⟨v, vm₁, ⟨U', l2, c2, s2⟩, hW₁, X', ⟨g', mk, t, L, e1, e2, hq, h1, hL, h2, h3⟩, st⟩ | ⟨q, vm₁, ⟨U', l2, c2, s2⟩, hW₁, X', ⟨g', mk, t, L, E, ce, e1, e2, hq, hce, hcv, hcl, h1, hL, h2, h3⟩, st⟩
  · dsimp only [Pt.U, Pt.locs, Pt.cells, Pt.slots] at X' e1 e2 h1 h2 h3 st
    subst h1; subst h2; subst h3
    exact Or.inl ⟨v, (T.setVm vm₁).calling g' mk (Value.ref b :: As).toArray, t, U', L, hT, X', hL, e1, e2, hq, st⟩
  · dsimp only [Pt.U, Pt.locs, Pt.cells, Pt.slots] at X' e1 e2 h1 h2 h3 st hcl
    subst h1; subst h2; subst h3
    exact Or.inr ⟨q, (T.setVm vm₁).calling g' mk (Value.ref b :: As).toArray, t, U', L, E, ce, hT, X', hL, e1, e2, hq, hce, hcv, vx_cls hW₁ hcl, st⟩
theorem vx_runS (S : CallFix p m c cc nL s args Ts own) (hM : vx_Met l y ws rm Pc Qc XC mc ms free) (cw : CallB R s args own index y bytes maxL ret ws rm mc ms n ∧ (Cond.static y).before args s = true) (hp : PreS s H Pc As)
    (hg : g.method = m) (hn : As.length = n) (hsize : g.locals.size = nL) (hstack : g.stack = As.reverse ++ rest) (hW : 2 * g.monitorRoom + (rest.map fun v => v.category).sum ≤ 8) (hdg : decode cc g.pc = .ok (.invokestatic index, 3)) (hf : cells + mc ≤ R.cells ∧ slots + ms ≤ R.slots) :
    vx_Run p l e R s m args below meth c H locs cells slots mc ms g rest (Qc As.toArray) XC free := by
  have hK : vx_Back l R p e below s args y 3 8 (PreOf R mc ms Pc) (PostOf Qc mc ms free) (vx_Post XC mc ms free) := vx_callBack cw.1 hM hp.1
  obtain ⟨⟨-, -, -, -, -, -, hcode, hini, hy, hlen, hl⟩, hstt⟩ := cw
  obtain ⟨hx, hb, hml, ho, -⟩ := S
  intro T hT X
  rcases vx_callS X hx (bytes := bytes) (maxL := maxL) (ret := ret) ho hl hstt hini hcode hy hK hg (hsize.trans hml.symm) (argsL := As) (rest := rest) (fun sig h => hn.trans (hlen sig h)) hstack hW (by rw [hb]; exact hdg)
    (fun vm₁ hW₁ => ⟨hf.1, hf.2, hp.2 (T.setVm vm₁) hT hW₁⟩) with ⟨v, vm₁, ⟨U', l2, c2, s2⟩, hW₁, X', ⟨g', mk, t, L, e1, e2, hq, h1, hL, h2, h3⟩, st⟩ | ⟨q, vm₁, ⟨U', l2, c2, s2⟩, hW₁, X', ⟨g', mk, t, L, E, ce, e1, e2, hq, hce, hcv, hcl, h1, hL, h2, h3⟩, st⟩
  · dsimp only [Pt.U, Pt.locs, Pt.cells, Pt.slots] at X' e1 e2 h1 h2 h3 st
    subst h1; subst h2; subst h3
    exact Or.inl ⟨v, (T.setVm vm₁).calling g' mk As.toArray, t, U', L, hT, X', hL, e1, e2, hq, st⟩
  · dsimp only [Pt.U, Pt.locs, Pt.cells, Pt.slots] at X' e1 e2 h1 h2 h3 st hcl
    subst h1; subst h2; subst h3
    exact Or.inr ⟨q, (T.setVm vm₁).calling g' mk As.toArray, t, U', L, E, ce, hT, X', hL, e1, e2, hq, hce, hcv, vx_cls hW₁ hcl, st⟩
end Runs
section Rows
variable {p : Program} {l : Launch} {e : Env} {R : Room} {s : State} {m : MethodId} {args : Array Value} {below : List Frame} {meth : Method} {c : Code} {H : Heap} {locs : List Loc} {cells slots : Nat} {Q : State → Prop}
variable {mc ms : Nat} {free : Addr → Prop} {A0 A1 : Nat → Prop} {H0 : Heap} {a : Array Value} {pc : Nat} {ls : Array Slot} {st0 rest : List Value}
theorem vx_keep {st₀ t T' : State} {L : List Loc} (h0 : st₀.heap = H) (e1 : T'.heap = t.heap) (hS : va_S A0 H0 H locs) (hA : ∀ q, q < H.size → A1 q → A0 q) (hf : ∀ q, free q → A0 q) (hL : ∀ q ∈ L, free q.base) (hF : va_F A1 st₀ t) :
    H.size ≤ T'.heap.size ∧ (∀ q : Nat, q < H.size → ¬ A1 q → T'.heap[q]? = H[q]?) ∧ va_S A0 H0 T'.heap (locs ++ L) := by
  obtain ⟨hz, hk⟩ := hF
  rw [h0] at hz hk
  exact ⟨by rw [e1]; exact hz, fun q h1 h2 => by rw [e1]; exact hk q h1 h2,
    ⟨Nat.le_trans hS.1 (by rw [e1]; exact hz), fun q h1 h2 => by rw [e1, hk q (Nat.lt_of_lt_of_le h1 hS.1) (fun z => h2 (hA q (Nat.lt_of_lt_of_le h1 hS.1) z))]; exact hS.2.1 q h1 h2, fun q hq => by
      rcases List.mem_append.mp hq with h | h
      · exact hS.2.2 q h
      · exact hf _ (hL q h)⟩⟩
theorem vx_calli {S SX : Type} {post : Int32 → S → Prop} {px : SX → Prop} {B : S → State → Prop} {BX : String → SX → State → Prop} {AX : Nat → Prop} (hr : vx_Run p l e R s m args below meth c H locs cells slots mc ms (F0 m pc ls st0) rest (va_Qi post B A1 a) (vx_X px BX AX) free) (hS : va_S A0 H0 H locs) (hA : ∀ q, q < H.size → A1 q → A0 q) (hf : ∀ q, free q → A0 q) (hAX : ∀ q, q < H.size → AX q → A0 q)
    (kx : ∀ (E : String) (ce : Cell) (q9 : Addr) (u : SX) (t : State) (H1 : Heap) (locs1 : List Loc), t.heap = H1 → s.vm.Alike t.vm → px u → BX E u t → H.size ≤ H1.size → (∀ q : Nat, q < H.size → ¬ AX q → H1[q]? = H[q]?) → va_S A0 H0 H1 locs1 → H1[q9]? = some ce → ce.vm = .none → s.vm.findClass E = some ce.cls → vx_W p l e R s m args below meth c H1 locs1 (cells + mc) (slots + ms) Q (F0 m pc ls rest) q9)
    (kk : ∀ (r : Int32) (u : S) (t : State) (H1 : Heap) (locs1 : List Loc), t.heap = H1 → s.vm.Alike t.vm → post r u → B u t → H.size ≤ H1.size → (∀ q : Nat, q < H.size → ¬ A1 q → H1[q]? = H[q]?) → va_S A0 H0 H1 locs1 → W p l e R s m args below meth c H1 locs1 (cells + mc) (slots + ms) Q (F0 m (pc + 3) ls (.int r :: rest))) : W p l e R s m args below meth c H locs cells slots Q (F0 m pc ls st0) := by
  intro T hT X
  rcases hr T hT X with ⟨v, st₀, t, T', L, h0, X', hL, e1, e2, ⟨⟨r, u, hv, hp, hb⟩, hF⟩, st⟩ | ⟨q, st₀, t, T', L, E, ce, h0, X', hL, e1, e2, ⟨u, hp, hb, hF⟩, hce, hcv, hcl, st⟩
  · cases hv
    obtain ⟨k1, k2, k3⟩ := vx_keep h0 e1 hS hA hf hL hF
    obtain ⟨t2, a1, b1⟩ := kk r u t T'.heap (locs ++ L) e1.symm (by rw [← e2]; exact X'.warmed.alike) hp hb k1 k2 k3 T' rfl X'
    exact ⟨t2, st t2 a1, b1⟩
  · obtain ⟨k1, k2, k3⟩ := vx_keep h0 e1 hS hAX hf hL hF
    obtain ⟨t2, a1, b1⟩ := kx E ce q u t T'.heap (locs ++ L) e1.symm (by rw [← e2]; exact X'.warmed.alike) hp hb k1 k2 k3 (by rw [e1]; exact hce) hcv hcl T' rfl X'
    exact ⟨t2, st.trans a1, b1⟩
theorem vx_calll {S SX : Type} {post : Int64 → S → Prop} {px : SX → Prop} {B : S → State → Prop} {BX : String → SX → State → Prop} {AX : Nat → Prop} (hr : vx_Run p l e R s m args below meth c H locs cells slots mc ms (F0 m pc ls st0) rest (va_Ql post B A1 a) (vx_X px BX AX) free) (hS : va_S A0 H0 H locs) (hA : ∀ q, q < H.size → A1 q → A0 q) (hf : ∀ q, free q → A0 q) (hAX : ∀ q, q < H.size → AX q → A0 q)
    (kx : ∀ (E : String) (ce : Cell) (q9 : Addr) (u : SX) (t : State) (H1 : Heap) (locs1 : List Loc), t.heap = H1 → s.vm.Alike t.vm → px u → BX E u t → H.size ≤ H1.size → (∀ q : Nat, q < H.size → ¬ AX q → H1[q]? = H[q]?) → va_S A0 H0 H1 locs1 → H1[q9]? = some ce → ce.vm = .none → s.vm.findClass E = some ce.cls → vx_W p l e R s m args below meth c H1 locs1 (cells + mc) (slots + ms) Q (F0 m pc ls rest) q9)
    (kk : ∀ (r : Int64) (u : S) (t : State) (H1 : Heap) (locs1 : List Loc), t.heap = H1 → s.vm.Alike t.vm → post r u → B u t → H.size ≤ H1.size → (∀ q : Nat, q < H.size → ¬ A1 q → H1[q]? = H[q]?) → va_S A0 H0 H1 locs1 → W p l e R s m args below meth c H1 locs1 (cells + mc) (slots + ms) Q (F0 m (pc + 3) ls (.long r :: rest))) : W p l e R s m args below meth c H locs cells slots Q (F0 m pc ls st0) := by
  intro T hT X
  rcases hr T hT X with ⟨v, st₀, t, T', L, h0, X', hL, e1, e2, ⟨⟨r, u, hv, hp, hb⟩, hF⟩, st⟩ | ⟨q, st₀, t, T', L, E, ce, h0, X', hL, e1, e2, ⟨u, hp, hb, hF⟩, hce, hcv, hcl, st⟩
  · cases hv
    obtain ⟨k1, k2, k3⟩ := vx_keep h0 e1 hS hA hf hL hF
    obtain ⟨t2, a1, b1⟩ := kk r u t T'.heap (locs ++ L) e1.symm (by rw [← e2]; exact X'.warmed.alike) hp hb k1 k2 k3 T' rfl X'
    exact ⟨t2, st t2 a1, b1⟩
  · obtain ⟨k1, k2, k3⟩ := vx_keep h0 e1 hS hAX hf hL hF
    obtain ⟨t2, a1, b1⟩ := kx E ce q u t T'.heap (locs ++ L) e1.symm (by rw [← e2]; exact X'.warmed.alike) hp hb k1 k2 k3 (by rw [e1]; exact hce) hcv hcl T' rfl X'
    exact ⟨t2, st.trans a1, b1⟩
theorem vx_callf {S SX : Type} {post : UInt32 → S → Prop} {px : SX → Prop} {B : S → State → Prop} {BX : String → SX → State → Prop} {AX : Nat → Prop} (hr : vx_Run p l e R s m args below meth c H locs cells slots mc ms (F0 m pc ls st0) rest (va_Qf post B A1 a) (vx_X px BX AX) free) (hS : va_S A0 H0 H locs) (hA : ∀ q, q < H.size → A1 q → A0 q) (hf : ∀ q, free q → A0 q) (hAX : ∀ q, q < H.size → AX q → A0 q)
    (kx : ∀ (E : String) (ce : Cell) (q9 : Addr) (u : SX) (t : State) (H1 : Heap) (locs1 : List Loc), t.heap = H1 → s.vm.Alike t.vm → px u → BX E u t → H.size ≤ H1.size → (∀ q : Nat, q < H.size → ¬ AX q → H1[q]? = H[q]?) → va_S A0 H0 H1 locs1 → H1[q9]? = some ce → ce.vm = .none → s.vm.findClass E = some ce.cls → vx_W p l e R s m args below meth c H1 locs1 (cells + mc) (slots + ms) Q (F0 m pc ls rest) q9)
    (kk : ∀ (r : UInt32) (u : S) (t : State) (H1 : Heap) (locs1 : List Loc), t.heap = H1 → s.vm.Alike t.vm → post r u → B u t → H.size ≤ H1.size → (∀ q : Nat, q < H.size → ¬ A1 q → H1[q]? = H[q]?) → va_S A0 H0 H1 locs1 → W p l e R s m args below meth c H1 locs1 (cells + mc) (slots + ms) Q (F0 m (pc + 3) ls (.float r :: rest))) : W p l e R s m args below meth c H locs cells slots Q (F0 m pc ls st0) := by
  intro T hT X
  rcases hr T hT X with ⟨v, st₀, t, T', L, h0, X', hL, e1, e2, ⟨⟨r, u, hv, hp, hb⟩, hF⟩, st⟩ | ⟨q, st₀, t, T', L, E, ce, h0, X', hL, e1, e2, ⟨u, hp, hb, hF⟩, hce, hcv, hcl, st⟩
  · cases hv
    obtain ⟨k1, k2, k3⟩ := vx_keep h0 e1 hS hA hf hL hF
    obtain ⟨t2, a1, b1⟩ := kk r u t T'.heap (locs ++ L) e1.symm (by rw [← e2]; exact X'.warmed.alike) hp hb k1 k2 k3 T' rfl X'
    exact ⟨t2, st t2 a1, b1⟩
  · obtain ⟨k1, k2, k3⟩ := vx_keep h0 e1 hS hAX hf hL hF
    obtain ⟨t2, a1, b1⟩ := kx E ce q u t T'.heap (locs ++ L) e1.symm (by rw [← e2]; exact X'.warmed.alike) hp hb k1 k2 k3 (by rw [e1]; exact hce) hcv hcl T' rfl X'
    exact ⟨t2, st.trans a1, b1⟩
theorem vx_calld {S SX : Type} {post : UInt64 → S → Prop} {px : SX → Prop} {B : S → State → Prop} {BX : String → SX → State → Prop} {AX : Nat → Prop} (hr : vx_Run p l e R s m args below meth c H locs cells slots mc ms (F0 m pc ls st0) rest (va_Qd post B A1 a) (vx_X px BX AX) free) (hS : va_S A0 H0 H locs) (hA : ∀ q, q < H.size → A1 q → A0 q) (hf : ∀ q, free q → A0 q) (hAX : ∀ q, q < H.size → AX q → A0 q)
    (kx : ∀ (E : String) (ce : Cell) (q9 : Addr) (u : SX) (t : State) (H1 : Heap) (locs1 : List Loc), t.heap = H1 → s.vm.Alike t.vm → px u → BX E u t → H.size ≤ H1.size → (∀ q : Nat, q < H.size → ¬ AX q → H1[q]? = H[q]?) → va_S A0 H0 H1 locs1 → H1[q9]? = some ce → ce.vm = .none → s.vm.findClass E = some ce.cls → vx_W p l e R s m args below meth c H1 locs1 (cells + mc) (slots + ms) Q (F0 m pc ls rest) q9)
    (kk : ∀ (r : UInt64) (u : S) (t : State) (H1 : Heap) (locs1 : List Loc), t.heap = H1 → s.vm.Alike t.vm → post r u → B u t → H.size ≤ H1.size → (∀ q : Nat, q < H.size → ¬ A1 q → H1[q]? = H[q]?) → va_S A0 H0 H1 locs1 → W p l e R s m args below meth c H1 locs1 (cells + mc) (slots + ms) Q (F0 m (pc + 3) ls (.double r :: rest))) : W p l e R s m args below meth c H locs cells slots Q (F0 m pc ls st0) := by
  intro T hT X
  rcases hr T hT X with ⟨v, st₀, t, T', L, h0, X', hL, e1, e2, ⟨⟨r, u, hv, hp, hb⟩, hF⟩, st⟩ | ⟨q, st₀, t, T', L, E, ce, h0, X', hL, e1, e2, ⟨u, hp, hb, hF⟩, hce, hcv, hcl, st⟩
  · cases hv
    obtain ⟨k1, k2, k3⟩ := vx_keep h0 e1 hS hA hf hL hF
    obtain ⟨t2, a1, b1⟩ := kk r u t T'.heap (locs ++ L) e1.symm (by rw [← e2]; exact X'.warmed.alike) hp hb k1 k2 k3 T' rfl X'
    exact ⟨t2, st t2 a1, b1⟩
  · obtain ⟨k1, k2, k3⟩ := vx_keep h0 e1 hS hAX hf hL hF
    obtain ⟨t2, a1, b1⟩ := kx E ce q u t T'.heap (locs ++ L) e1.symm (by rw [← e2]; exact X'.warmed.alike) hp hb k1 k2 k3 (by rw [e1]; exact hce) hcv hcl T' rfl X'
    exact ⟨t2, st.trans a1, b1⟩
theorem vx_callv {S SX : Type} {post : S → Prop} {px : SX → Prop} {B : S → State → Prop} {BX : String → SX → State → Prop} {AX : Nat → Prop} (hr : vx_Run p l e R s m args below meth c H locs cells slots mc ms (F0 m pc ls st0) rest (va_Qv post B A1 a) (vx_X px BX AX) free) (hS : va_S A0 H0 H locs) (hA : ∀ q, q < H.size → A1 q → A0 q) (hf : ∀ q, free q → A0 q) (hAX : ∀ q, q < H.size → AX q → A0 q)
    (kx : ∀ (E : String) (ce : Cell) (q9 : Addr) (u : SX) (t : State) (H1 : Heap) (locs1 : List Loc), t.heap = H1 → s.vm.Alike t.vm → px u → BX E u t → H.size ≤ H1.size → (∀ q : Nat, q < H.size → ¬ AX q → H1[q]? = H[q]?) → va_S A0 H0 H1 locs1 → H1[q9]? = some ce → ce.vm = .none → s.vm.findClass E = some ce.cls → vx_W p l e R s m args below meth c H1 locs1 (cells + mc) (slots + ms) Q (F0 m pc ls rest) q9)
    (kk : ∀ (u : S) (t : State) (H1 : Heap) (locs1 : List Loc), t.heap = H1 → s.vm.Alike t.vm → post u → B u t → H.size ≤ H1.size → (∀ q : Nat, q < H.size → ¬ A1 q → H1[q]? = H[q]?) → va_S A0 H0 H1 locs1 → W p l e R s m args below meth c H1 locs1 (cells + mc) (slots + ms) Q (F0 m (pc + 3) ls (rest))) : W p l e R s m args below meth c H locs cells slots Q (F0 m pc ls st0) := by
  intro T hT X
  rcases hr T hT X with ⟨v, st₀, t, T', L, h0, X', hL, e1, e2, ⟨⟨u, hv, hp, hb⟩, hF⟩, st⟩ | ⟨q, st₀, t, T', L, E, ce, h0, X', hL, e1, e2, ⟨u, hp, hb, hF⟩, hce, hcv, hcl, st⟩
  · cases hv
    obtain ⟨k1, k2, k3⟩ := vx_keep h0 e1 hS hA hf hL hF
    obtain ⟨t2, a1, b1⟩ := kk u t T'.heap (locs ++ L) e1.symm (by rw [← e2]; exact X'.warmed.alike) hp hb k1 k2 k3 T' rfl X'
    exact ⟨t2, st t2 a1, b1⟩
  · obtain ⟨k1, k2, k3⟩ := vx_keep h0 e1 hS hAX hf hL hF
    obtain ⟨t2, a1, b1⟩ := kx E ce q u t T'.heap (locs ++ L) e1.symm (by rw [← e2]; exact X'.warmed.alike) hp hb k1 k2 k3 (by rw [e1]; exact hce) hcv hcl T' rfl X'
    exact ⟨t2, st.trans a1, b1⟩
/-- caught by the row x of this method's table; the rows ahead don't take it -/
theorem vx_catch {own name : String} {E : String} {ce : Cell} {q : Addr} (hown : s.vm.findClass own = some m.cls) (pre : List ExceptionTableEntry) (x : ExceptionTableEntry) (suf : List ExceptionTableEntry) (hsplit : c.exceptionTable.toList = pre ++ x :: suf)
    (hpass : ∀ z ∈ pre, covers z pc = false ∨ (z.catchType ≠ 0 ∧ ∃ nm : String, (Cond.classLink own z.catchType nm).before args s = true ∧ va_Nc E nm s)) (hx : covers x pc = true) (h0 : x.catchType ≠ 0)
    (hlink : (Cond.classLink own x.catchType name).before args s = true) (hcast : (Cond.castable E name).before args s = true) (hcell : H[q]? = some ce) (hv : ce.vm = .none) (hcl : s.vm.findClass E = some ce.cls)
    (kk : W p l e R s m args below meth c H locs cells slots Q (F0 m x.handlerPc ls [.ref q])) : vx_W p l e R s m args below meth c H locs cells slots Q (F0 m pc ls rest) q := by
  intro T hT X
  have hpl : e.platform.magicAccessors = ({} : Platform).magicAccessors := by rw [X.admits.platform]
  obtain ⟨c3, c4, hc3, hc4, hasg⟩ := Cond.castable_spec hcast
  cases Option.some.inj (hc3.symm.trans hcl)
  obtain ⟨c5, hc5, hcl5⟩ := Cond.classLink_spec hown hlink e.platform hpl
  cases Option.some.inj (hc4.symm.trans hc5)
  obtain ⟨vm', X', st⟩ := X.thenCaughtThrough q (g := F0 m pc ls rest) rfl (Steps.refl _) (by rw [hT]; exact hcell) (by rw [hv]; rfl) (by obtain ⟨k9, h9, -⟩ := Vm.findClass_spec hcl; exact ⟨k9, h9⟩) pre x suf hsplit
    (fun z hz => by
      rcases hpass z hz with h | ⟨hz0, nm, hl1, hn1⟩
      · exact Or.inl h
      · obtain ⟨c6, hc6, hcl6⟩ := Cond.classLink_spec hown hl1 e.platform hpl
        obtain ⟨a8, b8, h1, h2, h3⟩ := hn1
        cases Option.some.inj (h1.symm.trans hcl)
        cases Option.some.inj (h2.symm.trans hc6)
        exact Or.inr ⟨hz0, _, hcl6, h3⟩) hx (Or.inr ⟨h0, c4, hcl5, hasg⟩)
  obtain ⟨t, a1, b1⟩ := kk (T.setVm vm') hT X'
  exact ⟨t, st.trans a1, b1⟩
end Rows
section Ends
variable {p : Program} {l : Launch} {e : Env} {R : Room} {s : State} {m : MethodId} {args : Array Value} {below : List Frame} {meth : Method} {c : Code} {H : Heap} {locs : List Loc} {cells slots : Nat} {Q : State → Prop}
variable {mc ms : Nat} {free : Addr → Prop} {A0 A1 : Nat → Prop} {H0 : Heap} {a : Array Value} {ls : Array Slot} {st0 rest : List Value}
variable {Qc : Array Value → State → Outcome → State → Prop} {XC : String → State → State → Prop}
/-- what a body that may throw owes at its end -/
def vx_MQ (below : List Frame) (Qc : Array Value → State → Outcome → State → Prop) (XC : String → State → State → Prop) (a : Array Value) (s : State) (mc ms : Nat) (free : Addr → Prop) : State → Prop := fun t =>
  ∃ o, t.status = .running ∧ Ended t below o ∧ vx_Q Qc XC mc ms free a s o t
theorem vx_ret {g : JFrame} {mc ms : Nat} (k : W p l e R s m args below meth c H locs cells slots (MQ below Qc args s mc ms free) g) : W p l e R s m args below meth c H locs cells slots (vx_MQ below Qc XC args s mc ms free) g := by
  intro T hT X
  obtain ⟨t, a1, o, b1, b2, b3, b4⟩ := k T hT X
  exact ⟨t, a1, o, b1, b2, Or.inl ⟨b3, b4⟩⟩
/-- not caught here: it goes on to the caller -/
theorem vx_widen {g : JFrame} {q : Addr} {k n : Nat} (h1 : cells ≤ k) (h2 : slots ≤ n) (kk : vx_W p l e R s m args below meth c H locs k n Q g q) : vx_W p l e R s m args below meth c H locs cells slots Q g q := fun T hT X => kk T hT (stand_widen X h1 h2)
theorem vx_out {pc : Nat} {E : String} {ce : Cell} {q : Addr} {mc ms : Nat} (hout : ∀ x ∈ c.exceptionTable.toList, covers x pc = false) (hlocks : meth.locks = false) (hcell : H[q]? = some ce) (hv : ce.vm = .none) (hcl : s.vm.findClass E = some ce.cls)
    (hx : ∀ t : State, t.heap = H → s.vm.Alike t.vm → XC E s t) (hf : ∀ z ∈ locs, free z.base) (hc : cells ≤ mc) (hs : slots ≤ ms) :
    vx_W p l e R s m args below meth c H locs cells slots (vx_MQ below Qc XC args s mc ms free) (F0 m pc ls rest) q := by
  intro T hT X
  obtain ⟨st1, hrun, hend, hW, hsm⟩ := X.leaveThrown q (g := F0 m pc ls rest) rfl rfl rfl hout hlocks
  have hcell9 : (T.setFrames (.throwing q :: below)).heap[q]? = some ce := by
    show T.heap[q]? = some ce
    rw [hT]; exact hcell
  exact ⟨_, st1, .threw q, hrun, hend, Or.inr ⟨q, rfl, E, ce, locs, hx _ hT hW.alike, hcell9, hv, hcl, hW, hsm.mono hc hs, hf⟩⟩
theorem vx_frame {U : State} {k n : Nat} (h : s.sameButNew ({ U with vm := s.vm } : State) locs k n) : s.heap.size ≤ U.heap.size ∧ ∀ q : Nat, q < s.heap.size → (∀ z ∈ locs, z.base ≠ q) → U.heap[q]? = s.heap[q]? := by
  obtain ⟨-, h2, -, -, -, h6⟩ := h
  refine ⟨h2, fun q hq hz => ?_⟩
  obtain ⟨c9, e1, e2, e3, e4⟩ := h6 q _ (Array.getElem?_eq_getElem hq)
  have hs : c9.slots = (s.heap[q]).slots := Array.ext_getElem? fun i => e4 i fun hm => hz _ hm rfl
  have h9 : c9 = s.heap[q] := by
    rw [hs] at e2
    exact e2
  have e5 : U.heap[q]? = some c9 := e1
  rw [e5, h9, Array.getElem?_eq_getElem hq]
/-- the words of a throw but the four that speak of the heap -/
def vx_no (w : Cond) : Bool := decide (w ≠ .isRef (.static Bundle.tN "UNASSIGNED_STACK" Bundle.steD)) && decide (w ≠ .isRef (.static Bundle.tN "SUPPRESSED_SENTINEL" Bundle.listD)) && decide (w ≠ .laysStatic Bundle.tN "UNASSIGNED_STACK" Bundle.steD) && decide (w ≠ .laysStatic Bundle.tN "SUPPRESSED_SENTINEL" Bundle.listD)
def vx_at0 (own : String) (ic : Nat) (X : String) (names : List String) : List Cond := (Bundle.ownAtoms0 own ic X names).filter vx_no
def vx_atS (own : String) (ic : Nat) (X : String) (names : List String) : List Cond := (Bundle.ownAtoms own ic X names).filter vx_no
/-- a word that the tables alone decide, or a good one -/
def vx_ot (w : Cond) : Bool := w.onTables || goodWord w
theorem vx_ot_at {args a' : Array Value} {s U : State} {w : Cond} (hW : s.WarmedH U.vm) (hvm : s.vm = U.vm) (hg : vx_ot w = true) (h : w.before args s = true) : w.before a' U = true := by
  simp only [vx_ot, Bool.or_eq_true] at hg
  rcases hg with hg | hg
  · exact va_tabs hg hvm h
  · exact word_at hW (good_of_word hg) h
/-- a list's words: the good ones out of the method's own list, the others by premises of their own -/
theorem vx_hat {args : Array Value} {s : State} {L B : List Cond} (h1 : ∀ w ∈ L.filter goodWord, w.before args s = true) (h2 : ∀ w ∈ L.filter (fun w => !goodWord w), w ∈ B) (h3 : ∀ w ∈ B, w.before args s = true) : ∀ w ∈ L, w.before args s = true := by
  intro w hw
  by_cases g : goodWord w = true
  · exact h1 w (List.mem_filter.mpr ⟨hw, g⟩)
  · refine h3 w (h2 w (List.mem_filter.mpr ⟨hw, ?_⟩))
    show (!goodWord w) = true
    cases hgw : goodWord w
    · rfl
    · exact absurd hgw g
theorem vx_c {args : Array Value} {s : State} {w : Cond} {B : List Cond} (h : w.before args s = true) (t : ∀ w ∈ B, w.before args s = true) : ∀ w' ∈ w :: B, w'.before args s = true := fun w' h' => (List.mem_cons.mp h').elim (fun e => by rw [e]; exact h) (t w')
theorem vx_n {args : Array Value} {s : State} : ∀ w ∈ ([] : List Cond), w.before args s = true := fun _ h => nomatch h
theorem vx_own {args : Array Value} {s : State} {L : List Cond} (h1 : ∀ w ∈ L.filter vx_no, w.before args s = true)
    (hU : (Cond.isRef (.static Bundle.tN "UNASSIGNED_STACK" Bundle.steD)).before args s = true) (hN : (Cond.isRef (.static Bundle.tN "SUPPRESSED_SENTINEL" Bundle.listD)).before args s = true)
    (lU : (Cond.laysStatic Bundle.tN "UNASSIGNED_STACK" Bundle.steD).before args s = true) (lN : (Cond.laysStatic Bundle.tN "SUPPRESSED_SENTINEL" Bundle.listD).before args s = true) : ∀ w ∈ L, w.before args s = true := by
  intro w hw
  by_cases e1 : w = .isRef (.static Bundle.tN "UNASSIGNED_STACK" Bundle.steD)
  · rw [e1]; exact hU
  · by_cases e2 : w = .isRef (.static Bundle.tN "SUPPRESSED_SENTINEL" Bundle.listD)
    · rw [e2]; exact hN
    · by_cases e3 : w = .laysStatic Bundle.tN "UNASSIGNED_STACK" Bundle.steD
      · rw [e3]; exact lU
      · by_cases e4 : w = .laysStatic Bundle.tN "SUPPRESSED_SENTINEL" Bundle.listD
        · rw [e4]; exact lN
        · exact h1 w (List.mem_filter.mpr ⟨hw, by unfold vx_no; rw [decide_eq_true e1, decide_eq_true e2, decide_eq_true e3, decide_eq_true e4]; rfl⟩)
/-- where a static field lies, its class's statics cell in H -/
def vx_L (C n d : String) (A : Nat → Prop) (U : State) (H : Heap) : Prop := ∃ (c : ClassId) (k : Class) (i : Nat) (f : Field) (a : Nat) (cell : Cell), U.vm.findClass C = some c ∧ U.fieldFound? C n d = some (c, k, i, f) ∧ f.isStatic = true ∧ k.statics = some a ∧ H[a]? = some cell ∧ cell.vm.isStatics = true ∧ cell.cls = c ∧ f.slot < cell.slots.size ∧ k.staticTypes[f.slot]? = some f.type ∧ ¬ A a
theorem vx_L.moved {C n d : String} {A : Nat → Prop} {u U : State} {H : Heap} (hvm : u.vm.Alike U.vm) (h : vx_L C n d A u H) : vx_L C n d A U H := by
  obtain ⟨c, k, i, f, a, cell, h1, h2, h3, h4, h5, h6, h7, h8, h9, h10⟩ := h
  obtain ⟨k', hi', he⟩ := State.fieldFound?_setVm hvm h2
  exact ⟨c, k', i, f, a, cell, by rw [hvm.findClass]; exact h1, hi', h3, by rw [he]; exact h4, h5, h6, h7, h8, by rw [he]; exact h9, h10⟩
theorem vx_L.kept {C n d : String} {A : Nat → Prop} {U : State} {H H1 : Heap} (h : vx_L C n d A U H) (hq : ∀ a : Nat, a < H.size → ¬ A a → H1[a]? = H[a]?) : vx_L C n d A U H1 := by
  obtain ⟨c, k, i, f, a, cell, h1, h2, h3, h4, h5, h6, h7, h8, h9, h10⟩ := h
  exact ⟨c, k, i, f, a, cell, h1, h2, h3, h4, by rw [hq a (Array.getElem?_eq_some_iff.mp h5).1 h10]; exact h5, h6, h7, h8, h9, h10⟩
theorem vx_L.narrow {C n d : String} {A B : Nat → Prop} {U : State} {H : Heap} (h : vx_L C n d A U H) (hAB : ∀ q, B q → A q) : vx_L C n d B U H := by
  obtain ⟨c, k, i, f, a, cell, h1, h2, h3, h4, h5, h6, h7, h8, h9, h10⟩ := h
  exact ⟨c, k, i, f, a, cell, h1, h2, h3, h4, h5, h6, h7, h8, h9, fun z => h10 (hAB _ z)⟩
theorem vx_L.word {C n d : String} {A : Nat → Prop} {s : State} {args : Array Value} (h : vx_L C n d A s s.heap) : (Cond.laysStatic C n d).before args s = true := by
  obtain ⟨c, k, i, f, a, cell, h1, h2, h3, h4, h5, h6, h7, h8, h9, -⟩ := h
  show (Cond.laysStatic C n d).holds args s none s [] = true
  exact Cond.laysStatic_of h1 h2 h3 h4 h5 h6 h7 h8 h9
/-- .. and what it holds: null or some reference -/
def vx_Zq (C n d : String) (A : Nat → Prop) (U : State) (H : Heap) : Prop := va_Zq C n d A U H ∧ vx_L C n d A U H
theorem vx_Zq.moved {C n d : String} {A : Nat → Prop} {u U : State} {H : Heap} (hvm : u.vm.Alike U.vm) (h : vx_Zq C n d A u H) : vx_Zq C n d A U H := ⟨va_Zq.moved hvm h.1, vx_L.moved hvm h.2⟩
theorem vx_Zq.kept {C n d : String} {A : Nat → Prop} {U : State} {H H1 : Heap} (h : vx_Zq C n d A U H) (hq : ∀ a : Nat, a < H.size → ¬ A a → H1[a]? = H[a]?) : vx_Zq C n d A U H1 := ⟨va_Zq.kept h.1 hq, vx_L.kept h.2 hq⟩
theorem vx_Zq.narrow {C n d : String} {A B : Nat → Prop} {U : State} {H : Heap} (h : vx_Zq C n d A U H) (hAB : ∀ q, B q → A q) : vx_Zq C n d B U H := ⟨va_Zq.narrow h.1 hAB, vx_L.narrow h.2 hAB⟩
theorem vx_Zqof {args : Array Value} {s : State} {C n d : String} {A : Nat → Prop} (hl : (Cond.laysStatic C n d).before args s = true) (hini : (Cond.initialized C).before args s = true) (h : (Cond.isRef (.static C n d)).before args s = true) (hA : ∀ a : Nat, a < s.heap.size → ¬ A a) : vx_Zq C n d A s s.heap := by
  refine ⟨va_Zqof hl hini h hA, ?_⟩
  obtain ⟨c, k, i, f, a, cell, h1, h2, h3, h4, h5, h6, h7, h8, h9⟩ := Cond.laysStatic_spec hl
  exact ⟨c, k, i, f, a, cell, h1, h2, h3, h4, h5, h6, h7, h8, h9, hA a (Array.getElem?_eq_some_iff.mp h5).1⟩
theorem vx_isRef {C n d : String} {v : Value} {A : Nat → Prop} {s : State} {args : Array Value} (h : va_Z C n d v A s s.heap) (hv : v.isRef = true) : (Cond.isRef (.static C n d)).before args s = true := by
  obtain ⟨cf, kf, fi, f, a, cell, h1, h2, h3, h4, h5, h6, h7, -⟩ := h
  have he : (Term.static C n d).eval args s none [] s = some v := by
    simp [Term.eval, State.fieldNamed?, h1, h2, h4, h5, h6, h7]
  simp only [Cond.before, Cond.holds, Cond.value, he]
  cases v <;> simp_all [Value.isRef]
theorem vx_isRefq {C n d : String} {A : Nat → Prop} {s : State} {args : Array Value} (h : va_Zq C n d A s s.heap) : (Cond.isRef (.static C n d)).before args s = true := by
  rcases h with h | ⟨t, h⟩
  · exact vx_isRef h rfl
  · exact vx_isRef h rfl
/-- the same frame, seen from here: as if the method were called anew in this heap -/
theorem vx_rebase {T : State} (X : Stand p l e R s m args below meth c T locs cells slots) {R' : Room} (hf : R'.frames ≤ R.frames) (hl : R'.locals ≤ R.locals) (hc : cells + R'.cells ≤ R.cells) (hs : slots + R'.slots ≤ R.slots) :
    Stand p l e R' ((T.setVm s.vm).setFrames (.invoking m args :: below)) m args below meth c T [] 0 0 := by
  have htop : (T.setVm s.vm).topJava?.isSome := X.here.top
  have hF : ((T.setVm s.vm).setFrames (.invoking m args :: below)).frames = .invoking m args :: below := State.frames_setFrames _ (State.cur_lt_of_top htop)
  obtain ⟨g₀, hg0⟩ := Option.isSome_iff_exists.mp htop
  obtain ⟨r, hr⟩ := State.topJava?_eq_some.mp hg0
  have hl9 : e.platform.stackLimits (T.setVm s.vm).me = e.platform.stackLimits s.me := X.limits
  have hb9 : (T.setVm s.vm).me.stackBytes = s.me.stackBytes := X.bytes
  refine ⟨X.admits, X.cas, X.clock, hF, ?_, X.hears, X.method, X.code, X.here, X.tail, X.warmed, ?_, ?_, ?_⟩
  · have h := X.room
    have hU : ((T.setVm s.vm).setFrames (.invoking m args :: below)).localsInUse = s.localsInUse := by
      rw [State.localsInUse_invoking hF (meth := meth) (c := c) X.method X.code, State.localsInUse_invoking X.frames X.method X.code]
    simp only [State.hasRoom, Bool.and_eq_true, decide_eq_true_eq] at h ⊢
    obtain ⟨⟨⟨⟨h1, h2, h3, h4, h5, h6⟩, h7⟩, h8⟩, h9⟩ := h
    rw [X.frames, List.length_cons] at h2 h3
    have q1 := X.heapSize
    have q2 := X.used
    simp only [hF, hU, List.length_cons, State.stackLimits_setFrames, State.stackBytes_setFrames, hl9, hb9]
    refine ⟨⟨⟨⟨by omega, by omega, by omega, by omega, by omega, h6⟩, ?_⟩, ?_⟩, X.book⟩
    · show T.heap.size + R'.cells ≤ e.platform.maxCells
      omega
    · show T.slotsUsed + R'.slots ≤ e.platform.maxSlots
      omega
  · rw [State.stackLimits_setFrames]; rfl
  · rw [State.stackBytes_setFrames]; rfl
  · refine ⟨?_, Nat.le_refl _, Nat.le_refl _, ?_, ?_, fun a c9 h9 => ⟨c9, h9, rfl, rfl, fun _ _ => rfl⟩⟩
    · obtain ⟨t, ht, -⟩ := State.frames_cons hr
      show T.setVm s.vm = { ((T.setVm s.vm).setFrames (.invoking m args :: below)).setFrames (T.setVm s.vm).frames with heap := T.heap, slotsUsed := T.slotsUsed }
      rw [State.setFrames_setFrames, State.setFrames_self ht]
      rfl
    · show T.slotsUsed = T.slotsUsed + ((T.heap.toList.drop T.heap.size).map (·.slots.size)).sum
      rw [List.drop_eq_nil_of_le (Nat.le_of_eq Array.length_toList)]
      rfl
    · show ((T.heap.toList.drop T.heap.size).map (·.slots.size)).sum ≤ 0
      rw [List.drop_eq_nil_of_le (Nat.le_of_eq Array.length_toList)]
      exact Nat.le_refl _
/-- 'throw new E()': new; dup; invokespecial; athrow -/
theorem vx_throw0 {cc : ByteArray} {pc : Nat} (hexec : p.tables.exec = Jvm.exec) (hb : c.code = cc) (hl : l.stackTraces = false) {own cls : String} {names : List String} {ik ic mc ms : Nat} {A : Nat → Prop}
    (hown : s.vm.findClass own = some m.cls) (hcls : Bundle.fit cls = true) (hnames : ∀ n ∈ names, Bundle.fit n = true)
    (hk : (Cond.classLink own ik cls).before args s = true) (hini : (Cond.initialized cls).before args s = true) (hat : ∀ w ∈ vx_at0 own ic cls names, w.before args s = true)
    (hgood : ∀ w ∈ Cond.classLink own ik cls :: Cond.initialized cls :: vx_at0 own ic cls names, vx_ot w = true)
    (hU : vx_Zq Bundle.tN "UNASSIGNED_STACK" Bundle.steD A s s.heap) (hN : vx_Zq Bundle.tN "SUPPRESSED_SENTINEL" Bundle.listD A s s.heap) (hS : va_S A s.heap H locs) (hsize : ls.size = c.maxLocals)
    (d0 : decode cc pc = .ok (.new ik, 3)) (d3 : decode cc (pc + 3) = .ok (.dup, 1)) (d4 : decode cc (pc + 4) = .ok (.invokespecial ic, 3)) (d7 : decode cc (pc + 7) = .ok (.athrow, 1))
    (hout : ∀ x ∈ c.exceptionTable.toList, covers x (pc + 7) = false)
    (hRframes : names.length + 3 < R.frames) (hRlocals : (rest.map fun v => v.category).sum + (13 * (names.length + 1) + 42) ≤ R.locals) (hRcells : cells + 1 ≤ R.cells) (hRslots : slots + 6 ≤ R.slots) (hlocks : meth.locks = false)
    (hx : ∀ t : State, s.vm.Alike t.vm → H.size ≤ t.heap.size → (∀ q : Nat, q < H.size → t.heap[q]? = H[q]?) → XC cls s t)
    (hf : ∀ z ∈ locs, free z.base) (hc : cells + 1 ≤ mc) (hs : slots + 6 ≤ ms) :
    W p l e R s m args below meth c H locs cells slots (vx_MQ below Qc XC args s mc ms free) (F0 m pc ls rest) := by
  intro T hT X
  have htr : e.platform.stackTraces = false := (show e.platform.stackTraces = l.stackTraces by rw [X.admits.platform]).trans hl
  have Y := vx_rebase X (R' := { frames := R.frames, locals := R.locals, cells := 1, slots := 6 }) (Nat.le_refl _) (Nat.le_refl _) hRcells hRslots
  obtain ⟨s', hA⟩ : ∃ z, z = (T.setVm s.vm).setFrames (.invoking m args :: below) := ⟨_, rfl⟩
  rw [← hA] at Y
  have hvm : s'.vm = s.vm := by rw [hA]; rfl
  have hhp : s'.heap = H := by rw [hA]; exact hT
  have hW0 : s.WarmedH s'.vm := by rw [hvm]; exact State.WarmedH.refl s
  have hat' : ∀ w ∈ vx_at0 own ic cls names, w.before args s' = true := fun w hw => vx_ot_at hW0 hvm.symm (hgood w (List.mem_cons_of_mem _ (List.mem_cons_of_mem _ hw))) (hat w hw)
  have hk' : (Cond.classLink own ik cls).before args s' = true := vx_ot_at hW0 hvm.symm (hgood _ List.mem_cons_self) hk
  have hini' : (Cond.initialized cls).before args s' = true := vx_ot_at hW0 hvm.symm (hgood _ (List.mem_cons_of_mem _ List.mem_cons_self)) hini
  have hU' : vx_Zq Bundle.tN "UNASSIGNED_STACK" Bundle.steD A s' s'.heap := by rw [hhp]; exact vx_Zq.moved hW0.alike (hU.kept hS.2.1)
  have hN' : vx_Zq Bundle.tN "SUPPRESSED_SENTINEL" Bundle.listD A s' s'.heap := by rw [hhp]; exact vx_Zq.moved hW0.alike (hN.kept hS.2.1)
  have h : ∀ w ∈ Bundle.ownAtoms0 own ic cls names, w.before args s' = true := vx_own hat' (vx_isRefq hU'.1) (vx_isRefq hN'.1) hU'.2.word hN'.2.word
  have hown' : s'.vm.findClass own = some m.cls := by rw [hvm]; exact hown
  have hins : (Cond.instantiable cls 6).before args s' = true := h _ (by simp [Bundle.ownAtoms0])
  obtain ⟨vm₁, cX, kX, hfX, hkX, -, -, X₁, st1⟩ := Y.newCold hexec (own := own) (C := cls) (index := ik) (n := 6) hown' hk' hins hini'
    (g := F0 m pc ls rest) rfl (by rw [hb]; exact d0) (Nat.le_refl _) (Nat.le_refl _)
  generalize hT1 : (T.setVm vm₁).pushCell { cls := cX, slots := kX.instanceTypes.map defaultValue, vm := .none } = T1 at X₁ st1
  have hcat : (Value.ref T.heap.size).category = 1 := rfl
  have hcellA : T1.heap[T.heap.size]? = some (freshCell cX kX) := by rw [← hT1]; exact State.heap_pushCell_size _ _
  have d3' : decode c.code (pc + 3) = .ok (.dup, 1) := by rw [hb]; exact d3
  obtain ⟨U, hsteps, hrun, hend, hW, hsame, ce, hce, hO⟩ := X₁.ctorThrow0 hexec htr (own := own) (cls := cls) (names := names) (ic := ic) hown' hcls hnames h (fun x hx => nomatch hx) hfX hkX hcellA (by rw [hhp, hT]; exact Nat.le_refl _)
    (g := { method := m, pc := pc + 4, locals := ls, stack := .ref T.heap.size :: .ref T.heap.size :: rest, locked := none }) rfl hsize rfl rfl (rest := rest) rfl
    (by rw [hb]; exact d4) (by rw [hb]; exact d7) hout hRframes (by simp only [List.map_cons, List.sum_cons, hcat]; omega) hlocks
  obtain ⟨f1, f2⟩ := vx_frame hsame
  rw [hhp] at f1 f2
  have hWs : s.WarmedH U.vm := State.WarmedH.trans hW0 hW
  have hcl : s.vm.findClass cls = some ce.cls := by
    have h9 := hO.cls
    rw [hvm] at h9
    exact h9
  have hall : s.sameButNew ({ U with vm := s.vm } : State) locs mc ms := by
    subst hA
    obtain ⟨e1, e2⟩ := hsame
    rw [State.setFrames_setFrames] at e1
    have h2 : (T.setVm s.vm).sameButNew ({ U with vm := s.vm } : State) [] (0 + 1) (0 + 6) := ⟨e1, e2⟩
    have h3 := X.same.trans h2
    rw [List.append_nil] at h3
    exact h3.mono hc hs
  refine ⟨U, ?_, .threw T.heap.size, hrun, hend, Or.inr ⟨T.heap.size, rfl, cls, ce, locs, hx U hWs.alike f1 (fun q hq => f2 q hq (fun z hz => nomatch hz)), hce, hO.vm, hcl, hWs, hall, hf⟩⟩
  refine st1 _ ?_
  show Steps p.tables e below (T1.setTop { method := m, pc := pc + 3, locals := ls, stack := .ref T.heap.size :: rest, locked := none }) _
  jvm_step X₁.here [X₁.here.top, hexec, d3', Value.category]
  exact hsteps
/-- 'throw new E("text")': new; dup; ldc; invokespecial; athrow -/
theorem vx_throwS {cc : ByteArray} {pc : Nat} (hexec : p.tables.exec = Jvm.exec) (hb : c.code = cc) (hl : l.stackTraces = false) {own cls text : String} {names : List String} {ik is ic mc ms sa : Nat} {A : Nat → Prop}
    (hown : s.vm.findClass own = some m.cls) (hcls : Bundle.fit cls = true) (hnames : ∀ n ∈ names, Bundle.fit n = true)
    (hk : (Cond.classLink own ik cls).before args s = true) (hini : (Cond.initialized cls).before args s = true) (hstr : vk_R own is text sa s) (hat : ∀ w ∈ vx_atS own ic cls names, w.before args s = true)
    (hgood : ∀ w ∈ Cond.classLink own ik cls :: Cond.initialized cls :: vx_atS own ic cls names, vx_ot w = true)
    (hU : vx_Zq Bundle.tN "UNASSIGNED_STACK" Bundle.steD A s s.heap) (hN : vx_Zq Bundle.tN "SUPPRESSED_SENTINEL" Bundle.listD A s s.heap) (hS : va_S A s.heap H locs) (hsize : ls.size = c.maxLocals)
    (d0 : decode cc pc = .ok (.new ik, 3)) (d3 : decode cc (pc + 3) = .ok (.dup, 1)) (d4 : decode cc (pc + 4) = .ok (.ldc is, 2)) (d6 : decode cc (pc + 6) = .ok (.invokespecial ic, 3)) (d9 : decode cc (pc + 9) = .ok (.athrow, 1))
    (hout : ∀ x ∈ c.exceptionTable.toList, covers x (pc + 9) = false)
    (hRframes : names.length + 3 < R.frames) (hRlocals : (rest.map fun v => v.category).sum + (13 * (names.length + 1) + 43) ≤ R.locals) (hRcells : cells + 1 ≤ R.cells) (hRslots : slots + 6 ≤ R.slots) (hlocks : meth.locks = false)
    (hx : ∀ t : State, s.vm.Alike t.vm → H.size ≤ t.heap.size → (∀ q : Nat, q < H.size → t.heap[q]? = H[q]?) → XC cls s t)
    (hf : ∀ z ∈ locs, free z.base) (hc : cells + 1 ≤ mc) (hs : slots + 6 ≤ ms) :
    W p l e R s m args below meth c H locs cells slots (vx_MQ below Qc XC args s mc ms free) (F0 m pc ls rest) := by
  intro T hT X
  have htr : e.platform.stackTraces = false := (show e.platform.stackTraces = l.stackTraces by rw [X.admits.platform]).trans hl
  have Y := vx_rebase X (R' := { frames := R.frames, locals := R.locals, cells := 1, slots := 6 }) (Nat.le_refl _) (Nat.le_refl _) hRcells hRslots
  obtain ⟨s', hA⟩ : ∃ z, z = (T.setVm s.vm).setFrames (.invoking m args :: below) := ⟨_, rfl⟩
  rw [← hA] at Y
  have hvm : s'.vm = s.vm := by rw [hA]; rfl
  have hhp : s'.heap = H := by rw [hA]; exact hT
  have hW0 : s.WarmedH s'.vm := by rw [hvm]; exact State.WarmedH.refl s
  have hat' : ∀ w ∈ vx_atS own ic cls names, w.before args s' = true := fun w hw => vx_ot_at hW0 hvm.symm (hgood w (List.mem_cons_of_mem _ (List.mem_cons_of_mem _ hw))) (hat w hw)
  have hk' : (Cond.classLink own ik cls).before args s' = true := vx_ot_at hW0 hvm.symm (hgood _ List.mem_cons_self) hk
  have hini' : (Cond.initialized cls).before args s' = true := vx_ot_at hW0 hvm.symm (hgood _ (List.mem_cons_of_mem _ List.mem_cons_self)) hini
  have hU' : vx_Zq Bundle.tN "UNASSIGNED_STACK" Bundle.steD A s' s'.heap := by rw [hhp]; exact vx_Zq.moved hW0.alike (hU.kept hS.2.1)
  have hN' : vx_Zq Bundle.tN "SUPPRESSED_SENTINEL" Bundle.listD A s' s'.heap := by rw [hhp]; exact vx_Zq.moved hW0.alike (hN.kept hS.2.1)
  have h : ∀ w ∈ Bundle.ownAtoms own ic cls names, w.before args s' = true := vx_own hat' (vx_isRefq hU'.1) (vx_isRefq hN'.1) hU'.2.word hN'.2.word
  have hown' : s'.vm.findClass own = some m.cls := by rw [hvm]; exact hown
  have hins : (Cond.instantiable cls 6).before args s' = true := h _ (by simp [Bundle.ownAtoms])
  obtain ⟨vm₁, cX, kX, hfX, hkX, -, -, X₁, st1⟩ := Y.newCold hexec (own := own) (C := cls) (index := ik) (n := 6) hown' hk' hins hini'
    (g := F0 m pc ls rest) rfl (by rw [hb]; exact d0) (Nat.le_refl _) (Nat.le_refl _)
  generalize hT1 : (T.setVm vm₁).pushCell { cls := cX, slots := kX.instanceTypes.map defaultValue, vm := .none } = T1 at X₁ st1
  have hcat : (Value.ref T.heap.size).category = 1 := rfl
  have hcellA : T1.heap[T.heap.size]? = some (freshCell cX kX) := by rw [← hT1]; exact State.heap_pushCell_size _ _
  have d3' : decode c.code (pc + 3) = .ok (.dup, 1) := by rw [hb]; exact d3
  have d4' : decode c.code (pc + 4) = .ok (.ldc is, 2) := by rw [hb]; exact d4
  have hstr' : vk_R own is text sa s' := vk_R.warm hW0 hstr
  obtain ⟨U, hsteps, hrun, hend, hW, hsame, ce, hce, hO⟩ := X₁.ctorThrowS hexec htr (own := own) (cls := cls) (names := names) (ic := ic) hown' hcls hnames h (fun x hx => nomatch hx) hfX hkX hcellA (by rw [hhp, hT]; exact Nat.le_refl _) (msg := .ref sa) rfl
    (g := { method := m, pc := pc + 6, locals := ls, stack := .ref sa :: .ref T.heap.size :: .ref T.heap.size :: rest, locked := none }) rfl hsize rfl rfl (rest := rest) rfl
    (by rw [hb]; exact d6) (by rw [hb]; exact d9) hout hRframes (by simp only [List.map_cons, List.sum_cons, hcat]; omega) hlocks
  obtain ⟨f1, f2⟩ := vx_frame hsame
  rw [hhp] at f1 f2
  have hWs : s.WarmedH U.vm := State.WarmedH.trans hW0 hW
  have hcl : s.vm.findClass cls = some ce.cls := by
    have h9 := hO.cls
    rw [hvm] at h9
    exact h9
  have hall : s.sameButNew ({ U with vm := s.vm } : State) locs mc ms := by
    subst hA
    obtain ⟨e1, e2⟩ := hsame
    rw [State.setFrames_setFrames] at e1
    have h2 : (T.setVm s.vm).sameButNew ({ U with vm := s.vm } : State) [] (0 + 1) (0 + 6) := ⟨e1, e2⟩
    have h3 := X.same.trans h2
    rw [List.append_nil] at h3
    exact h3.mono hc hs
  refine ⟨U, ?_, .threw T.heap.size, hrun, hend, Or.inr ⟨T.heap.size, rfl, cls, ce, locs, hx U hWs.alike f1 (fun q hq => f2 q hq (fun z hz => nomatch hz)), hce, hO.vm, hcl, hWs, hall, hf⟩⟩
  refine st1 _ ?_
  show Steps p.tables e below (T1.setTop { method := m, pc := pc + 3, locals := ls, stack := .ref T.heap.size :: rest, locked := none }) _
  jvm_step X₁.here [X₁.here.top, hexec, d3', Value.category]
  exact X₁.ldcString hexec (own := own) (text := text) (index := is) (a := sa) hown' hstr'.1 hstr'.2
    (g := { method := m, pc := pc + 4, locals := ls, stack := .ref T.heap.size :: .ref T.heap.size :: rest, locked := none }) rfl d4' _ hsteps
/-- 'throw new E("text")', the text by a wide index -/
theorem vx_throwSW {cc : ByteArray} {pc : Nat} (hexec : p.tables.exec = Jvm.exec) (hb : c.code = cc) (hl : l.stackTraces = false) {own cls text : String} {names : List String} {ik is ic mc ms sa : Nat} {A : Nat → Prop}
    (hown : s.vm.findClass own = some m.cls) (hcls : Bundle.fit cls = true) (hnames : ∀ n ∈ names, Bundle.fit n = true)
    (hk : (Cond.classLink own ik cls).before args s = true) (hini : (Cond.initialized cls).before args s = true) (hstr : vk_R own is text sa s) (hat : ∀ w ∈ vx_atS own ic cls names, w.before args s = true)
    (hgood : ∀ w ∈ Cond.classLink own ik cls :: Cond.initialized cls :: vx_atS own ic cls names, vx_ot w = true)
    (hU : vx_Zq Bundle.tN "UNASSIGNED_STACK" Bundle.steD A s s.heap) (hN : vx_Zq Bundle.tN "SUPPRESSED_SENTINEL" Bundle.listD A s s.heap) (hS : va_S A s.heap H locs) (hsize : ls.size = c.maxLocals)
    (d0 : decode cc pc = .ok (.new ik, 3)) (d3 : decode cc (pc + 3) = .ok (.dup, 1)) (d4 : decode cc (pc + 4) = .ok (.ldc_w is, 3)) (d7 : decode cc (pc + 7) = .ok (.invokespecial ic, 3)) (d10 : decode cc (pc + 10) = .ok (.athrow, 1))
    (hout : ∀ x ∈ c.exceptionTable.toList, covers x (pc + 10) = false)
    (hRframes : names.length + 3 < R.frames) (hRlocals : (rest.map fun v => v.category).sum + (13 * (names.length + 1) + 43) ≤ R.locals) (hRcells : cells + 1 ≤ R.cells) (hRslots : slots + 6 ≤ R.slots) (hlocks : meth.locks = false)
    (hx : ∀ t : State, s.vm.Alike t.vm → H.size ≤ t.heap.size → (∀ q : Nat, q < H.size → t.heap[q]? = H[q]?) → XC cls s t)
    (hf : ∀ z ∈ locs, free z.base) (hc : cells + 1 ≤ mc) (hs : slots + 6 ≤ ms) :
    W p l e R s m args below meth c H locs cells slots (vx_MQ below Qc XC args s mc ms free) (F0 m pc ls rest) := by
  intro T hT X
  have htr : e.platform.stackTraces = false := (show e.platform.stackTraces = l.stackTraces by rw [X.admits.platform]).trans hl
  have Y := vx_rebase X (R' := { frames := R.frames, locals := R.locals, cells := 1, slots := 6 }) (Nat.le_refl _) (Nat.le_refl _) hRcells hRslots
  obtain ⟨s', hA⟩ : ∃ z, z = (T.setVm s.vm).setFrames (.invoking m args :: below) := ⟨_, rfl⟩
  rw [← hA] at Y
  have hvm : s'.vm = s.vm := by rw [hA]; rfl
  have hhp : s'.heap = H := by rw [hA]; exact hT
  have hW0 : s.WarmedH s'.vm := by rw [hvm]; exact State.WarmedH.refl s
  have hat' : ∀ w ∈ vx_atS own ic cls names, w.before args s' = true := fun w hw => vx_ot_at hW0 hvm.symm (hgood w (List.mem_cons_of_mem _ (List.mem_cons_of_mem _ hw))) (hat w hw)
  have hk' : (Cond.classLink own ik cls).before args s' = true := vx_ot_at hW0 hvm.symm (hgood _ List.mem_cons_self) hk
  have hini' : (Cond.initialized cls).before args s' = true := vx_ot_at hW0 hvm.symm (hgood _ (List.mem_cons_of_mem _ List.mem_cons_self)) hini
  have hU' : vx_Zq Bundle.tN "UNASSIGNED_STACK" Bundle.steD A s' s'.heap := by rw [hhp]; exact vx_Zq.moved hW0.alike (hU.kept hS.2.1)
  have hN' : vx_Zq Bundle.tN "SUPPRESSED_SENTINEL" Bundle.listD A s' s'.heap := by rw [hhp]; exact vx_Zq.moved hW0.alike (hN.kept hS.2.1)
  have h : ∀ w ∈ Bundle.ownAtoms own ic cls names, w.before args s' = true := vx_own hat' (vx_isRefq hU'.1) (vx_isRefq hN'.1) hU'.2.word hN'.2.word
  have hown' : s'.vm.findClass own = some m.cls := by rw [hvm]; exact hown
  have hins : (Cond.instantiable cls 6).before args s' = true := h _ (by simp [Bundle.ownAtoms])
  obtain ⟨vm₁, cX, kX, hfX, hkX, -, -, X₁, st1⟩ := Y.newCold hexec (own := own) (C := cls) (index := ik) (n := 6) hown' hk' hins hini'
    (g := F0 m pc ls rest) rfl (by rw [hb]; exact d0) (Nat.le_refl _) (Nat.le_refl _)
  generalize hT1 : (T.setVm vm₁).pushCell { cls := cX, slots := kX.instanceTypes.map defaultValue, vm := .none } = T1 at X₁ st1
  have hcat : (Value.ref T.heap.size).category = 1 := rfl
  have hcellA : T1.heap[T.heap.size]? = some (freshCell cX kX) := by rw [← hT1]; exact State.heap_pushCell_size _ _
  have d3' : decode c.code (pc + 3) = .ok (.dup, 1) := by rw [hb]; exact d3
  have d4' : decode c.code (pc + 4) = .ok (.ldc_w is, 3) := by rw [hb]; exact d4
  have hstr' : vk_R own is text sa s' := vk_R.warm hW0 hstr
  obtain ⟨U, hsteps, hrun, hend, hW, hsame, ce, hce, hO⟩ := X₁.ctorThrowS hexec htr (own := own) (cls := cls) (names := names) (ic := ic) hown' hcls hnames h (fun x hx => nomatch hx) hfX hkX hcellA (by rw [hhp, hT]; exact Nat.le_refl _) (msg := .ref sa) rfl
    (g := { method := m, pc := pc + 7, locals := ls, stack := .ref sa :: .ref T.heap.size :: .ref T.heap.size :: rest, locked := none }) rfl hsize rfl rfl (rest := rest) rfl
    (by rw [hb]; exact d7) (by rw [hb]; exact d10) hout hRframes (by simp only [List.map_cons, List.sum_cons, hcat]; omega) hlocks
  obtain ⟨f1, f2⟩ := vx_frame hsame
  rw [hhp] at f1 f2
  have hWs : s.WarmedH U.vm := State.WarmedH.trans hW0 hW
  have hcl : s.vm.findClass cls = some ce.cls := by
    have h9 := hO.cls
    rw [hvm] at h9
    exact h9
  have hall : s.sameButNew ({ U with vm := s.vm } : State) locs mc ms := by
    subst hA
    obtain ⟨e1, e2⟩ := hsame
    rw [State.setFrames_setFrames] at e1
    have h2 : (T.setVm s.vm).sameButNew ({ U with vm := s.vm } : State) [] (0 + 1) (0 + 6) := ⟨e1, e2⟩
    have h3 := X.same.trans h2
    rw [List.append_nil] at h3
    exact h3.mono hc hs
  refine ⟨U, ?_, .threw T.heap.size, hrun, hend, Or.inr ⟨T.heap.size, rfl, cls, ce, locs, hx U hWs.alike f1 (fun q hq => f2 q hq (fun z hz => nomatch hz)), hce, hO.vm, hcl, hWs, hall, hf⟩⟩
  refine st1 _ ?_
  show Steps p.tables e below (T1.setTop { method := m, pc := pc + 3, locals := ls, stack := .ref T.heap.size :: rest, locked := none }) _
  jvm_step X₁.here [X₁.here.top, hexec, d3', Value.category]
  exact X₁.ldcStringW hexec (own := own) (text := text) (index := is) (a := sa) hown' hstr'.1 hstr'.2
    (g := { method := m, pc := pc + 4, locals := ls, stack := .ref T.heap.size :: .ref T.heap.size :: rest, locked := none }) rfl d4' _ hsteps
end Ends
section Bodies
variable {l : Launch}
theorem vx_ofW {y : MethodName} {ws ws' : List Cond} {rm : Room} {Pc : Array Value → State → Prop} {Qc : Array Value → State → Outcome → State → Prop} {XC : String → State → State → Prop} {mc ms : Nat} {free : Addr → Prop} {cc : ByteArray} {maxL : Nat} {ret : Option FieldType}
    (hy : plainName y.cls = true) (hw : ws = Cond.code y cc maxL ret :: ws')
    (body : ∀ p e s m args below meth c s₁, BodyLoose p l y (headSpec ws rm) cc maxL ret e s m args below meth c s₁ → c.maxLocals = maxL → (∀ x ∈ c.exceptionTable.toList, False) → Pc args s →
      W p l e (headSpec ws rm).room s m args below meth c s.heap [] 0 0 (vx_MQ below Qc XC args s mc ms free) (entryFrame m args maxL)) : vx_Met l y ws rm Pc Qc XC mc ms free := by
  refine MetFree.of_bodyS (code := cc) (maxLocals := maxL) (ret := ret) hy ?_ ?_
  · intro args s m h hn
    obtain ⟨meth, c, h1, h2, h3, h4, h5, h6, -, -⟩ := Cond.code_spec hn (atoms_spec (ws := ws) h _ (by rw [hw]; exact List.mem_cons_self))
    exact ⟨meth, c, h1, h2, h3, h4, h5, h6⟩
  · intro p e s m args below meth c s₁ B hml hP _
    have hh0 : s₁.heap = s.heap := by rw [B.state]; rfl
    have ht : ∀ x ∈ c.exceptionTable.toList, False := by
      obtain ⟨meth9, c9, h1, h2, -, -, -, -, h7, -⟩ := Cond.code_spec B.named (atoms_spec (ws := ws) B.pre _ (by rw [hw]; exact List.mem_cons_self))
      cases Option.some.inj (h1.symm.trans B.method)
      cases Option.some.inj (h2.symm.trans (Stand.of_body B).code)
      intro x hx
      rw [Array.isEmpty_iff.mp h7] at hx
      cases hx
    obtain ⟨t, a1, o, b1, b2, b3⟩ := body p e s m args below meth c s₁ B hml ht hP s₁ hh0 (Stand.of_body B)
    exact ⟨t, o, a1, b1, b2, b3⟩
/-- the table of a body with handlers -/
theorem vx_table {p : Program} {x y : MethodName} {S : Spec} {cc bytes : ByteArray} {maxL maxL' : Nat} {ret ret' : Option FieldType} {e : Env} {s s₁ : State} {m : MethodId} {args : Array Value} {below : List Frame} {meth : Method} {c : Code} {hh : List (Nat × Nat × Nat × Nat)}
    (B : BodyLoose p l y S cc maxL ret e s m args below meth c s₁) (h : (Cond.codeWith y bytes maxL' ret' hh).before args s = true) : c.exceptionTable.toList = tableOf hh := by
  obtain ⟨m9, meth9, c9, hn9, h1, h2, -, -, h6, -⟩ := Cond.codeWith_spec h
  cases Option.some.inj (hn9.symm.trans B.named)
  cases Option.some.inj (h1.symm.trans B.method)
  cases Option.some.inj (h2.symm.trans (Stand.of_body B).code)
  rw [← h6, table_eq]
end Bodies
end VXA
/-! ===== END ===== -/
/-! ===== BEGIN a static call of a method with an exception table ===== -/
section VXS
variable {p : Program} {l : Launch} {e : Env} {R : Room} {s : State} {m : MethodId} {args : Array Value} {below : List Frame} {meth : Method} {c : Code} {T : State} {H : Heap} {locs : List Loc} {cells slots : Nat}
abbrev vx_CSW (R : Room) (s : State) (args : Array Value) (own : String) (index : Nat) (y : MethodName) (bytes : ByteArray) (maxL : Nat) (ret : Option FieldType) (hh : List (Nat × Nat × Nat × Nat)) (ws : List Cond) (rm : Room) (mc ms n : Nat) : Prop :=
  (rm.cells = mc ∧ rm.slots = ms ∧ rm.frames + 1 ≤ R.frames ∧ 8 + (maxL + 11) + rm.locals ≤ R.locals ∧ (∀ w ∈ ws, ∀ (a' : Array Value) (U : State), s.WarmedH U.vm → w.before a' U = true) ∧ Cond.codeWith y bytes maxL ret hh ∈ ws) ∧
  (Cond.codeWith y bytes maxL ret hh).before args s = true ∧ (Cond.initialized y.cls).before args s = true ∧ (y.cls ≠ "java/lang/invoke/MethodHandle" ∧ y.cls ≠ "java/lang/invoke/VarHandle") ∧
  (∀ sig, parseMethodDescriptor y.desc = some sig → n = sig.parameters.length) ∧ (Cond.methodLink own index y).before args s = true ∧ (Cond.static y).before args s = true
theorem vx_cwSW {own : String} {index maxL mc ms : Nat} {y : MethodName} {bytes : ByteArray} {ret : Option FieldType} {hh : List (Nat × Nat × Nat × Nat)} {Ts ws ws' : List Cond} {rm : Room} (n : Nat) (ht : ∀ w ∈ Ts, w.before args s = true) (hT : GoodIn Ts (va_wsS own index y ws)) (hw : ws = Cond.codeWith y bytes maxL ret hh :: ws') (hrc : rm.cells = mc) (hrs : rm.slots = ms)
    (hd : y.cls ≠ "java/lang/invoke/MethodHandle" ∧ y.cls ≠ "java/lang/invoke/VarHandle" ∧ (parseMethodDescriptor y.desc).map (fun d => d.parameters.length) = some n) (hR : rm.frames + 1 ≤ R.frames ∧ 8 + (maxL + 11) + rm.locals ≤ R.locals) :
    vx_CSW R s args own index y bytes maxL ret hh ws rm mc ms n := by
  have ok : ∀ w ∈ va_wsS own index y ws, w.before args s = true := fun w h => ht w (hT w h).1
  have hG : GoodIn Ts ws := fun w h => hT w (by unfold va_wsS; exact List.mem_append_right _ h)
  have hc : Cond.codeWith y bytes maxL ret hh ∈ ws := by rw [hw]; exact List.mem_cons_self
  refine ⟨⟨hrc, hrs, hR.1, hR.2, pay_in ht hG, hc⟩, ht _ (hG _ hc).1, ok _ (by simp [va_wsS]), ⟨hd.1, hd.2.1⟩, fun sig h => ?_, ok _ (by simp [va_wsS]), ok _ (by simp [va_wsS])⟩
  have h2 := hd.2.2
  rw [h] at h2
  exact (Option.some.inj h2).symm
theorem vx_callSW (X : Stand p l e R s m args below meth c T locs cells slots) (hexec : p.tables.exec = Jvm.exec) {own : String} {index : Nat} {y : MethodName} {bytes : ByteArray} {maxL : Nat} {ret : Option FieldType} {hh : List (Nat × Nat × Nat × Nat)}
    (hown : s.vm.findClass own = some m.cls) (hlink : (Cond.methodLink own index y).before args s = true) (hstat : (Cond.static y).before args s = true) (hinit : (Cond.initialized y.cls).before args s = true)
    (hcode : (Cond.codeWith y bytes maxL ret hh).before args s = true) (hy : y.cls ≠ "java/lang/invoke/MethodHandle" ∧ y.cls ≠ "java/lang/invoke/VarHandle")
    {W9 : Nat} {Pre : Pt → Array Value → Prop} {Post : Pt → Array Value → Option Value → Pt → Prop} (hK : Back l R p e below s args y 3 W9 Pre Post)
    {g : JFrame} (hg : g.method = m) (hsize : g.locals.size = c.maxLocals) {argsL rest : List Value} (hlen : ∀ sig, parseMethodDescriptor y.desc = some sig → argsL.length = sig.parameters.length)
    (hstack : g.stack = argsL.reverse ++ rest) (hW : 2 * g.monitorRoom + (rest.map fun v => v.category).sum ≤ W9) (hdg : decode c.code g.pc = .ok (.invokestatic index, 3))
    (hpre : ∀ vm₁, s.WarmedH vm₁ → Pre ⟨T.setVm vm₁, locs, cells, slots⟩ argsL.toArray) :
    ∃ (v : Option Value) (vm₁ : Vm) (B : Pt), s.WarmedH vm₁ ∧ Stand p l e R s m args below meth c B.U B.locs B.cells B.slots ∧ Post ⟨T.setVm vm₁, locs, cells, slots⟩ argsL.toArray v B ∧
      ∀ target, Steps p.tables e below (B.U.setTop { g with pc := g.pc + 3, stack := v.toList ++ rest }) target → Steps p.tables e below (T.setTop g) target := by
  obtain ⟨mk, methM, cM, hnamed, hmethM, -, -, -, -, -, -, hsigM⟩ := Cond.codeWith_spec hcode
  have hstatic : methM.isStatic = true := Cond.static_spec hnamed hmethM hstat
  obtain ⟨kP, hkP, -⟩ := className_of_methodNamed hnamed
  have hinitP : kP.init = .initialized := Cond.initialized_spec (findClass_of_methodNamed hnamed) hkP hinit
  obtain ⟨vm₁, X₁, hstep₁⟩ := X.invokestatic hexec hown hlink hnamed hmethM hstatic hkP hinitP hy (g := g) hg (argsL := argsL) (rest := rest) (hlen _ hsigM) hstack hdg
  obtain ⟨v, B, X', hpost, hsteps⟩ := hK m meth c ⟨T.setVm vm₁, locs, cells, slots⟩ { g with stack := rest } (.invokestatic index) mk argsL.toArray X₁ hg hsize hdg hW (X₁.named hnamed) (hpre vm₁ X₁.warmed)
  exact ⟨v, vm₁, B, X₁.warmed, X', hpost, fun target h => hstep₁ _ fun acts => by rw [doInvoke_state]; exact hsteps.trans h⟩
theorem vx_runSW {y : MethodName} {bytes cc : ByteArray} {maxL nL mc ms n index : Nat} {ret : Option FieldType} {hh : List (Nat × Nat × Nat × Nat)} {ws : List Cond} {rm : Room} {Pc : Array Value → State → Prop} {Qc : Array Value → State → Outcome → State → Prop} {free : Addr → Prop} {Ts : List Cond} {own : String} {As rest : List Value} {g : JFrame}
    (S : CallFix p m c cc nL s args Ts own) (hM : Met l y ws rm Pc Qc mc ms free) (cw : vx_CSW R s args own index y bytes maxL ret hh ws rm mc ms n) (hp : PreS s H Pc As)
    (hg : g.method = m) (hn : As.length = n) (hsize : g.locals.size = nL) (hstack : g.stack = As.reverse ++ rest) (hW : 2 * g.monitorRoom + (rest.map fun v => v.category).sum ≤ 8) (hdg : decode cc g.pc = .ok (.invokestatic index, 3)) (hf : cells + mc ≤ R.cells ∧ slots + ms ≤ R.slots) :
    va_Run p l e R s m args below meth c H locs cells slots mc ms g rest (Qc As.toArray) (free) := by
  obtain ⟨⟨hrc, hrs, hfr, hlo, hws, hcw⟩, hcode, hini, hy, hlen, hl, hstt⟩ := cw
  have hK : Back l R p e below s args y 3 8 (PreOf R mc ms Pc) (PostOf Qc mc ms free) := va_backW (hh := hh) (bytes := bytes) (maxL := maxL) (ret := ret) hM hp.1 hrc hrs hfr hlo hws hcw (fun a' U hW => word_at hW (Or.inl (by first | rfl | simp [Cond.onTables, Cond.keeps, Cond.steady])) hini)
  obtain ⟨hx, hb, hml, ho, -⟩ := S
  intro T hT X
  obtain ⟨v, vm₁, ⟨U', l2, c2, s2⟩, hW₁, X', ⟨g', mk, t, L, e1, e2, hq, h1, hL, h2, h3⟩, st⟩ := vx_callSW X hx (hh := hh) (bytes := bytes) (maxL := maxL) (ret := ret) ho hl hstt hini hcode hy hK hg (hsize.trans hml.symm) (argsL := As) (rest := rest) (fun sig h => hn.trans (hlen sig h)) hstack hW (by rw [hb]; exact hdg)
    (fun vm₁ hW₁ => ⟨hf.1, hf.2, hp.2 (T.setVm vm₁) hT hW₁⟩)
  dsimp only [Pt.U, Pt.locs, Pt.cells, Pt.slots] at X' e1 e2 h1 h2 h3 st
  subst h1; subst h2; subst h3
  exact ⟨v, (T.setVm vm₁).calling g' mk As.toArray, t, U', L, hT, X', hL, e1, e2, hq, st⟩
/-- not caught here, past rows that name other classes: it goes on to the caller -/
theorem vx_outP {p : Program} {l : Launch} {e : Env} {R : Room} {s : State} {m : MethodId} {args : Array Value} {below : List Frame} {meth : Method} {c : Code} {H : Heap} {locs : List Loc} {cells slots : Nat} {free : Addr → Prop} {ls : Array Slot} {rest : List Value} {Qc : Array Value → State → Outcome → State → Prop} {XC : String → State → State → Prop}
    {pc : Nat} {own E : String} {ce : Cell} {q : Addr} {mc ms : Nat} (hown : s.vm.findClass own = some m.cls) (hlocks : meth.locks = false)
    (hpass : ∀ z ∈ c.exceptionTable.toList, covers z pc = false ∨ (z.catchType ≠ 0 ∧ ∃ nm : String, (Cond.classLink own z.catchType nm).before args s = true ∧ va_Nc E nm s)) (hcell : H[q]? = some ce) (hv : ce.vm = .none) (hcl : s.vm.findClass E = some ce.cls)
    (hx : ∀ t : State, t.heap = H → s.vm.Alike t.vm → XC E s t) (hf : ∀ z ∈ locs, free z.base) (hc : cells ≤ mc) (hs : slots ≤ ms) :
    vx_W p l e R s m args below meth c H locs cells slots (vx_MQ below Qc XC args s mc ms free) (F0 m pc ls rest) q := by
  intro T hT X
  have hpl : e.platform.magicAccessors = ({} : Platform).magicAccessors := by rw [X.admits.platform]
  obtain ⟨vm', hW', X', st⟩ := X.outThrough hlocks q (g := F0 m pc ls rest) rfl rfl rfl (cell := ce) (by rw [hT]; exact hcell) (by rw [hv]; rfl)
    (by obtain ⟨k9, h9, -⟩ := Vm.findClass_spec hcl; exact ⟨k9, h9⟩) (fun z hz => by
      rcases hpass z hz with h | ⟨hz0, nm, hl1, hn1⟩
      · exact Or.inl h
      · obtain ⟨c6, hc6, hcl6⟩ := Cond.classLink_spec hown hl1 e.platform hpl
        obtain ⟨a8, b8, h1, h2, h3⟩ := hn1
        cases Option.some.inj (h1.symm.trans hcl)
        cases Option.some.inj (h2.symm.trans hc6)
        exact Or.inr ⟨hz0, _, hcl6, h3⟩)
  obtain ⟨g₀, hfr⟩ := X'.frames_eq
  have hcell9 : ((T.setVm vm').setFrames (.throwing q :: below)).heap[q]? = some ce := by
    show T.heap[q]? = some ce
    rw [hT]; exact hcell
  have hend : Ended ((T.setVm vm').setFrames (.throwing q :: below)) below (.threw q) := State.frames_setFrames _ (State.cur_lt_of_frames hfr)
  refine ⟨(T.setVm vm').setFrames (.throwing q :: below), ?_, .threw q, X'.here.running, hend, Or.inr ⟨q, rfl, E, ce, locs, hx _ hT (X'.ends _).1.alike, hcell9, hv, hcl, (X'.ends _).1, (X'.ends _).2.mono hc hs, hf⟩⟩
  rw [X.pushThrowing_eq]
  exact st
/-- a thing of a world lies in the heap -/
theorem vx_lt {D : va_G} {cl : List vw_C} {ws : va_W} {H1 : Heap} (h : va_P D cl ws H1) {k : Nat} {q : Nat × va_E} (hk : ws[k]? = some q) : q.1 < H1.size := (h k q hk).lt
end VXS
/-! ===== END ===== -/
/-! ===== BEGIN methods with a table of their own: called by a name, returning or throwing ===== -/
section VXH
/-! vx_backW, vx_callVX, vx_callSX, vx_callVW, vx_runVW, vx_runVX, vx_runSX, vx_ofWH follow the same proofs as their sisters above (Free/Laws.lean, Shelf42/LK1.lean); vx_outP calls Shelf42/NT130.lean (outThrough). -/
section
variable {l : Launch} {R : Room} {p : Program} {e : Env} {below : List Frame} {s : State} {sargs : Array Value} {y : MethodName} {len W9 : Nat}
theorem vx_backW {ws : List Cond} {rm : Room} {Pc : Array Value → State → Prop} {Qc : Array Value → State → Outcome → State → Prop} {XC : String → State → State → Prop} {mc ms : Nat} {free : Addr → Prop} {bytes : ByteArray} {maxL : Nat} {ret : Option FieldType} {hh : List (Nat × Nat × Nat × Nat)}
    (hM : vx_Met l y ws rm Pc Qc XC mc ms free) (hblind : FrameBlind Pc) (hrc : rm.cells = mc) (hrs : rm.slots = ms)
    (hframes : rm.frames + 1 ≤ R.frames) (hlocals : W9 + (maxL + 11) + rm.locals ≤ R.locals)
    (hws : ∀ w ∈ ws, ∀ a' U, s.WarmedH U.vm → w.before a' U = true) (hcode : Cond.codeWith y bytes maxL ret hh ∈ ws) (hinit : ∀ a' U, s.WarmedH U.vm → (Cond.initialized y.cls).before a' U = true) :
    vx_Back l R p e below s sargs y len W9 (PreOf R mc ms Pc) (PostOf Qc mc ms free) (vx_Post XC mc ms free) := by
  intro m meth c A g ig mk a X hg hsize hdg hW hn hp
  have h1 : (headSpec ws rm).pre.before a A.U = true := atoms_intro fun w hw => hws w hw _ _ X.warmed
  have h2 : (Cond.codeWith y bytes maxL ret hh).before a A.U = true := hws _ hcode _ _ X.warmed
  have h3 : (Cond.initialized y.cls).before a A.U = true := hinit _ _ X.warmed
  have h4 : A.cells + (headSpec ws rm).room.cells ≤ R.cells := by rw [show (headSpec ws rm).room.cells = mc from hrc]; exact hp.1
  have h5 : A.slots + (headSpec ws rm).room.slots ≤ R.slots := by rw [show (headSpec ws rm).room.slots = ms from hrs]; exact hp.2.1
  have hPc : Pc a (A.U.calling g mk a) := hblind _ _ _ _ hp.2.2
  obtain ⟨U, Ls, c0, s0⟩ := A
  dsimp only [Pt.U, Pt.locs, Pt.cells, Pt.slots] at h1 h2 h3 h4 h5 X hn hPc ⊢
  obtain ⟨m9, methY, cY, hn9, hmY, hcY, -, hlY, -⟩ := Cond.codeWith_spec h2
  cases Option.some.inj (hn9.symm.trans hn)
  obtain ⟨kY, hkY, -⟩ := className_of_methodNamed hn
  have hinitY : kY.init = .initialized := Cond.initialized_spec (findClass_of_methodNamed hn) hkY h3
  have h : At U g.method c below := by rw [hg]; exact X.here
  have hlocals9 : W9 + (maxL + 11) + (headSpec ws rm).room.locals ≤ R.locals := hlocals
  have happ : (headSpec ws rm).appliesLoose y e.platform (U.calling g mk a) = true :=
    Spec.appliesLoose_calling (g := g) h hdg hn hkY hinitY
      (X.room_calling (g := g) (R' := (headSpec ws rm).room) hsize hmY hcY hframes (by rw [hlY]; omega) h4 h5) h1
  obtain ⟨mid, hmid⟩ := h.above
  have hfr : (U.setTop g).frames = (.java g :: mid) ++ below := by rw [State.frames_setTop' g h.top, hmid]; rfl
  obtain ⟨o, s₂, hsteps, -, hend, hq⟩ := Steps.callFree hM p X.admits X.cas X.clock (acts := []) hfr happ hPc trivial
  have hq' : vx_Q Qc XC mc ms free a (U.calling g mk a) o s₂ := hq
  rw [State.frames_setTop' g h.top] at hend
  obtain ⟨g₀, hg0⟩ := Option.isSome_iff_exists.mp h.top
  obtain ⟨r, hr⟩ := State.topJava?_eq_some.mp hg0
  have hr' : (({ U with heap := s₂.heap, slotsUsed := s₂.slotsUsed } : State).setVm s₂.vm).frames = .java g₀ :: r := hr
  rcases hq' with ⟨hqc, L, hfe, hL⟩ | ⟨q, rfl, E, ce, L, hx, hce, hcv, hcl, hW₂, hsm, hL⟩
  · obtain ⟨⟨v, rfl⟩, hW₂, e2, q2, q3, q4, q5, q6⟩ := id hfe
    have e3 : s₂ = ({ (U.calling g mk a).setFrames s₂.frames with heap := s₂.heap, slotsUsed := s₂.slotsUsed } : State).setVm s₂.vm := by
      have : s₂ = ({ s₂ with vm := (U.calling g mk a).vm } : State).setVm s₂.vm := rfl
      rw [e2] at this
      exact this
    obtain ⟨c₂, i₂, len₂, hc₂, hd₂, hf₂⟩ := hend
    have hW' : U.WarmedH s₂.vm := hW₂
    have hcc : c₂ = c := by
      have h1 : s₂.code? g.method = U.code? g.method := by
        rw [State.code?_eq, State.code?_eq, hW'.alike.method?]
      exact Option.some.inj (hc₂.symm.trans (h1.trans h.code))
    subst hcc
    have hlen : len₂ = len := by rw [hdg] at hd₂; cases hd₂; rfl
    subst hlen
    have hs₂ : s₂ = (({ U with heap := s₂.heap, slotsUsed := s₂.slotsUsed } : State).setVm s₂.vm).setTop { g with pc := g.pc + len₂, stack := v.toList ++ g.stack } := by
      refine e3.trans ?_
      rw [hf₂, State.calling_eq h.top, State.setFrames_setFrames, State.setTop_of_frames _ hr', hr]
      rfl
    have hsame : U.sameButNew ({ U with heap := s₂.heap, slotsUsed := s₂.slotsUsed } : State) L mc ms := by
      refine ⟨?_, q2, q3, q4, q5, q6⟩
      obtain ⟨t, ht, -⟩ := State.frames_cons hr
      show ({ U with heap := s₂.heap, slotsUsed := s₂.slotsUsed } : State) = { U.setFrames U.frames with heap := s₂.heap, slotsUsed := s₂.slotsUsed }
      rw [State.setFrames_self ht]
    subst hg
    refine Or.inl ⟨v, ⟨(({ U with heap := s₂.heap, slotsUsed := s₂.slotsUsed } : State).setVm s₂.vm), Ls ++ L, c0 + mc, s0 + ms⟩,
      ⟨X.admits, X.cas, X.clock, X.frames, X.room, X.hears, X.method, X.code, (X.here.setHeapUsed s₂.heap s₂.slotsUsed).setVm hW'.alike, X.tail, State.WarmedH.trans X.warmed hW', X.limits, X.bytes, X.same.trans (hsame.setVm s.vm)⟩,
      ⟨g, mk, s₂, L, rfl, rfl, hqc, rfl, hL, rfl, rfl⟩, ?_⟩
    show Steps p.tables e below _ ((({ U with heap := s₂.heap, slotsUsed := s₂.slotsUsed } : State).setVm s₂.vm).setTop { g with pc := g.pc + len₂, stack := v.toList ++ g.stack })
    rw [← hs₂]
    exact hsteps
  · obtain ⟨e2, q2, q3, q4, q5, q6⟩ := id hsm
    have e3 : s₂ = ({ (U.calling g mk a).setFrames s₂.frames with heap := s₂.heap, slotsUsed := s₂.slotsUsed } : State).setVm s₂.vm := by
      have : s₂ = ({ s₂ with vm := (U.calling g mk a).vm } : State).setVm s₂.vm := rfl
      rw [e2] at this
      exact this
    have hf₂ : s₂.frames = .throwing q :: .java g :: U.frames.tail := hend
    have hW' : U.WarmedH s₂.vm := hW₂
    have hs₂ : s₂ = ((({ U with heap := s₂.heap, slotsUsed := s₂.slotsUsed } : State).setVm s₂.vm).setTop g).pushFrame (.throwing q) := by
      refine e3.trans ?_
      rw [hf₂, State.calling_eq h.top, State.setFrames_setFrames, State.pushFrame, State.frames_setTop _ hr', State.setTop_of_frames _ hr', State.setFrames_setFrames, hr]
      rfl
    have hsame : U.sameButNew ({ U with heap := s₂.heap, slotsUsed := s₂.slotsUsed } : State) L mc ms := by
      refine ⟨?_, q2, q3, q4, q5, q6⟩
      obtain ⟨t, ht, -⟩ := State.frames_cons hr
      show ({ U with heap := s₂.heap, slotsUsed := s₂.slotsUsed } : State) = { U.setFrames U.frames with heap := s₂.heap, slotsUsed := s₂.slotsUsed }
      rw [State.setFrames_self ht]
    subst hg
    refine Or.inr ⟨q, ⟨(({ U with heap := s₂.heap, slotsUsed := s₂.slotsUsed } : State).setVm s₂.vm), Ls ++ L, c0 + mc, s0 + ms⟩,
      ⟨X.admits, X.cas, X.clock, X.frames, X.room, X.hears, X.method, X.code, (X.here.setHeapUsed s₂.heap s₂.slotsUsed).setVm hW'.alike, X.tail, State.WarmedH.trans X.warmed hW', X.limits, X.bytes, X.same.trans (hsame.setVm s.vm)⟩,
      ⟨g, mk, s₂, L, E, ce, rfl, rfl, hx, hce, hcv, hcl, rfl, hL, rfl, rfl⟩, ?_⟩
    show Steps p.tables e below _ (((({ U with heap := s₂.heap, slotsUsed := s₂.slotsUsed } : State).setVm s₂.vm).setTop g).pushFrame (.throwing q))
    rw [← hs₂]
    exact hsteps
end
variable {p : Program} {l : Launch} {e : Env} {R : Room} {s : State} {m : MethodId} {args : Array Value} {below : List Frame} {meth : Method} {c : Code} {T : State} {H : Heap} {locs : List Loc} {cells slots : Nat}
theorem vx_callVX (X : Stand p l e R s m args below meth c T locs cells slots) (hexec : p.tables.exec = Jvm.exec) {own C : String} {index : Nat} {y : MethodName} {bytes : ByteArray} {maxL : Nat} {ret : Option FieldType} {hh : List (Nat × Nat × Nat × Nat)}
    (hown : s.vm.findClass own = some m.cls) (hlink : (Cond.methodLink own index y).before args s = true) (hinst : (Cond.instanceMethod y).before args s = true) (hsel : (Cond.selects C y y).before args s = true)
    (hcode : (Cond.codeWith y bytes maxL ret hh).before args s = true) (hy : y.cls ≠ "java/lang/invoke/MethodHandle" ∧ y.cls ≠ "java/lang/invoke/VarHandle")
    {W9 : Nat} {Pre : Pt → Array Value → Prop} {Post : Pt → Array Value → Option Value → Pt → Prop} {PostX : Pt → Array Value → Addr → Pt → Prop} (hK : vx_Back l R p e below s args y 3 W9 Pre Post PostX)
    {b : Addr} {cellB : Cell} (hcell : T.heap[b]? = some cellB) (hobj : cellB.vm.isStatics = false) (hcls : s.vm.findClass C = some cellB.cls)
    {g : JFrame} (hg : g.method = m) (hsize : g.locals.size = c.maxLocals) {argsL rest : List Value} (hlen : ∀ sig, parseMethodDescriptor y.desc = some sig → argsL.length = sig.parameters.length)
    (hstack : g.stack = argsL.reverse ++ .ref b :: rest) (hW : 2 * g.monitorRoom + (rest.map fun v => v.category).sum ≤ W9) (hdg : decode c.code g.pc = .ok (.invokevirtual index, 3))
    (hpre : ∀ vm₁, s.WarmedH vm₁ → Pre ⟨T.setVm vm₁, locs, cells, slots⟩ (Value.ref b :: argsL).toArray) :
    (∃ (v : Option Value) (vm₁ : Vm) (B : Pt), s.WarmedH vm₁ ∧ Stand p l e R s m args below meth c B.U B.locs B.cells B.slots ∧ Post ⟨T.setVm vm₁, locs, cells, slots⟩ (Value.ref b :: argsL).toArray v B ∧
      ∀ target, Steps p.tables e below (B.U.setTop { g with pc := g.pc + 3, stack := v.toList ++ rest }) target → Steps p.tables e below (T.setTop g) target) ∨
    (∃ (q : Addr) (vm₁ : Vm) (B : Pt), s.WarmedH vm₁ ∧ Stand p l e R s m args below meth c B.U B.locs B.cells B.slots ∧ PostX ⟨T.setVm vm₁, locs, cells, slots⟩ (Value.ref b :: argsL).toArray q B ∧
      Steps p.tables e below (T.setTop g) ((B.U.setTop { g with stack := rest }).pushFrame (.throwing q))) := by
  obtain ⟨mk, methM, hnamed, hmethM, hstM, habM⟩ := Cond.instanceMethod_spec hinst
  obtain ⟨m8, methM', cM, hn8, hmethM', -, -, -, -, -, -, hsigM⟩ := Cond.codeWith_spec hcode
  cases Option.some.inj (hn8.symm.trans hnamed)
  cases hmethM.symm.trans hmethM'
  obtain ⟨c2, r2, m2, q1, q2, q3, q4, kP, hkP, hkPi⟩ := Cond.selects_spec hsel
  cases hcls.symm.trans q1
  cases (State.methodFound?_of_named hnamed hy).symm.trans q2
  cases hnamed.symm.trans q3
  have hselP : selectMethod e.platform s.vm cellB.cls mk = .method mk := by rw [Launch.admits_selectMethod X.admits]; exact q4
  obtain ⟨vm₁, X₁, hstep₁⟩ := X.invokevirtual hexec hown hlink hnamed hmethM hstM hkP hkPi hy (a := b) (cell := cellB) hcell
    (fun z h => by rw [h] at hobj; cases hobj) hselP hmethM habM hkP hkPi (g := g) hg (argsL := argsL) (rest := rest) (hlen _ hsigM) hstack hdg
  rcases hK m meth c ⟨T.setVm vm₁, locs, cells, slots⟩ { g with stack := rest } (.invokevirtual index) mk (Value.ref b :: argsL).toArray X₁ hg hsize hdg hW (X₁.named hnamed) (hpre vm₁ X₁.warmed) with ⟨v, B, X', hpost, hsteps⟩ | ⟨q, B, X', hpost, hsteps⟩
  · exact Or.inl ⟨v, vm₁, B, X₁.warmed, X', hpost, fun target h => hstep₁ _ fun acts => by rw [doInvoke_state]; exact hsteps.trans h⟩
  · exact Or.inr ⟨q, vm₁, B, X₁.warmed, X', hpost, hstep₁ _ fun acts => by rw [doInvoke_state]; exact hsteps⟩
theorem vx_callSX (X : Stand p l e R s m args below meth c T locs cells slots) (hexec : p.tables.exec = Jvm.exec) {own : String} {index : Nat} {y : MethodName} {bytes : ByteArray} {maxL : Nat} {ret : Option FieldType} {hh : List (Nat × Nat × Nat × Nat)}
    (hown : s.vm.findClass own = some m.cls) (hlink : (Cond.methodLink own index y).before args s = true) (hstat : (Cond.static y).before args s = true) (hinit : (Cond.initialized y.cls).before args s = true)
    (hcode : (Cond.codeWith y bytes maxL ret hh).before args s = true) (hy : y.cls ≠ "java/lang/invoke/MethodHandle" ∧ y.cls ≠ "java/lang/invoke/VarHandle")
    {W9 : Nat} {Pre : Pt → Array Value → Prop} {Post : Pt → Array Value → Option Value → Pt → Prop} {PostX : Pt → Array Value → Addr → Pt → Prop} (hK : vx_Back l R p e below s args y 3 W9 Pre Post PostX)
    {g : JFrame} (hg : g.method = m) (hsize : g.locals.size = c.maxLocals) {argsL rest : List Value} (hlen : ∀ sig, parseMethodDescriptor y.desc = some sig → argsL.length = sig.parameters.length)
    (hstack : g.stack = argsL.reverse ++ rest) (hW : 2 * g.monitorRoom + (rest.map fun v => v.category).sum ≤ W9) (hdg : decode c.code g.pc = .ok (.invokestatic index, 3))
    (hpre : ∀ vm₁, s.WarmedH vm₁ → Pre ⟨T.setVm vm₁, locs, cells, slots⟩ argsL.toArray) :
    (∃ (v : Option Value) (vm₁ : Vm) (B : Pt), s.WarmedH vm₁ ∧ Stand p l e R s m args below meth c B.U B.locs B.cells B.slots ∧ Post ⟨T.setVm vm₁, locs, cells, slots⟩ argsL.toArray v B ∧
      ∀ target, Steps p.tables e below (B.U.setTop { g with pc := g.pc + 3, stack := v.toList ++ rest }) target → Steps p.tables e below (T.setTop g) target) ∨
    (∃ (q : Addr) (vm₁ : Vm) (B : Pt), s.WarmedH vm₁ ∧ Stand p l e R s m args below meth c B.U B.locs B.cells B.slots ∧ PostX ⟨T.setVm vm₁, locs, cells, slots⟩ argsL.toArray q B ∧
      Steps p.tables e below (T.setTop g) ((B.U.setTop { g with stack := rest }).pushFrame (.throwing q))) := by
  obtain ⟨mk, methM, cM, hnamed, hmethM, -, -, -, -, -, -, hsigM⟩ := Cond.codeWith_spec hcode
  have hstatic : methM.isStatic = true := Cond.static_spec hnamed hmethM hstat
  obtain ⟨kP, hkP, -⟩ := className_of_methodNamed hnamed
  have hinitP : kP.init = .initialized := Cond.initialized_spec (findClass_of_methodNamed hnamed) hkP hinit
  obtain ⟨vm₁, X₁, hstep₁⟩ := X.invokestatic hexec hown hlink hnamed hmethM hstatic hkP hinitP hy (g := g) hg (argsL := argsL) (rest := rest) (hlen _ hsigM) hstack hdg
  rcases hK m meth c ⟨T.setVm vm₁, locs, cells, slots⟩ { g with stack := rest } (.invokestatic index) mk argsL.toArray X₁ hg hsize hdg hW (X₁.named hnamed) (hpre vm₁ X₁.warmed) with ⟨v, B, X', hpost, hsteps⟩ | ⟨q, B, X', hpost, hsteps⟩
  · exact Or.inl ⟨v, vm₁, B, X₁.warmed, X', hpost, fun target h => hstep₁ _ fun acts => by rw [doInvoke_state]; exact hsteps.trans h⟩
  · exact Or.inr ⟨q, vm₁, B, X₁.warmed, X', hpost, hstep₁ _ fun acts => by rw [doInvoke_state]; exact hsteps⟩
theorem vx_callVW (X : Stand p l e R s m args below meth c T locs cells slots) (hexec : p.tables.exec = Jvm.exec) {own C : String} {index : Nat} {y : MethodName} {bytes : ByteArray} {maxL : Nat} {ret : Option FieldType} {hh : List (Nat × Nat × Nat × Nat)}
    (hown : s.vm.findClass own = some m.cls) (hlink : (Cond.methodLink own index y).before args s = true) (hinst : (Cond.instanceMethod y).before args s = true) (hsel : (Cond.selects C y y).before args s = true)
    (hcode : (Cond.codeWith y bytes maxL ret hh).before args s = true) (hy : y.cls ≠ "java/lang/invoke/MethodHandle" ∧ y.cls ≠ "java/lang/invoke/VarHandle")
    {W9 : Nat} {Pre : Pt → Array Value → Prop} {Post : Pt → Array Value → Option Value → Pt → Prop} (hK : Back l R p e below s args y 3 W9 Pre Post)
    {b : Addr} {cellB : Cell} (hcell : T.heap[b]? = some cellB) (hobj : cellB.vm.isStatics = false) (hcls : s.vm.findClass C = some cellB.cls)
    {g : JFrame} (hg : g.method = m) (hsize : g.locals.size = c.maxLocals) {argsL rest : List Value} (hlen : ∀ sig, parseMethodDescriptor y.desc = some sig → argsL.length = sig.parameters.length)
    (hstack : g.stack = argsL.reverse ++ .ref b :: rest) (hW : 2 * g.monitorRoom + (rest.map fun v => v.category).sum ≤ W9) (hdg : decode c.code g.pc = .ok (.invokevirtual index, 3))
    (hpre : ∀ vm₁, s.WarmedH vm₁ → Pre ⟨T.setVm vm₁, locs, cells, slots⟩ (Value.ref b :: argsL).toArray) :
    ∃ (v : Option Value) (vm₁ : Vm) (B : Pt), s.WarmedH vm₁ ∧ Stand p l e R s m args below meth c B.U B.locs B.cells B.slots ∧ Post ⟨T.setVm vm₁, locs, cells, slots⟩ (Value.ref b :: argsL).toArray v B ∧
      ∀ target, Steps p.tables e below (B.U.setTop { g with pc := g.pc + 3, stack := v.toList ++ rest }) target → Steps p.tables e below (T.setTop g) target := by
  obtain ⟨mk, methM, hnamed, hmethM, hstM, habM⟩ := Cond.instanceMethod_spec hinst
  obtain ⟨m8, methM', cM, hn8, hmethM', -, -, -, -, -, -, hsigM⟩ := Cond.codeWith_spec hcode
  cases Option.some.inj (hn8.symm.trans hnamed)
  cases hmethM.symm.trans hmethM'
  obtain ⟨c2, r2, m2, q1, q2, q3, q4, kP, hkP, hkPi⟩ := Cond.selects_spec hsel
  cases hcls.symm.trans q1
  cases (State.methodFound?_of_named hnamed hy).symm.trans q2
  cases hnamed.symm.trans q3
  have hselP : selectMethod e.platform s.vm cellB.cls mk = .method mk := by rw [Launch.admits_selectMethod X.admits]; exact q4
  obtain ⟨vm₁, X₁, hstep₁⟩ := X.invokevirtual hexec hown hlink hnamed hmethM hstM hkP hkPi hy (a := b) (cell := cellB) hcell
    (fun z h => by rw [h] at hobj; cases hobj) hselP hmethM habM hkP hkPi (g := g) hg (argsL := argsL) (rest := rest) (hlen _ hsigM) hstack hdg
  obtain ⟨v, B, X', hpost, hsteps⟩ := hK m meth c ⟨T.setVm vm₁, locs, cells, slots⟩ { g with stack := rest } (.invokevirtual index) mk (Value.ref b :: argsL).toArray X₁ hg hsize hdg hW (X₁.named hnamed) (hpre vm₁ X₁.warmed)
  exact ⟨v, vm₁, B, X₁.warmed, X', hpost, fun target h => hstep₁ _ fun acts => by rw [doInvoke_state]; exact hsteps.trans h⟩
abbrev vx_CVW (R : Room) (s : State) (args : Array Value) (own C : String) (index : Nat) (y : MethodName) (bytes : ByteArray) (maxL : Nat) (ret : Option FieldType) (hh : List (Nat × Nat × Nat × Nat)) (ws : List Cond) (rm : Room) (mc ms n : Nat) : Prop :=
  (rm.cells = mc ∧ rm.slots = ms ∧ rm.frames + 1 ≤ R.frames ∧ 8 + (maxL + 11) + rm.locals ≤ R.locals ∧ (∀ w ∈ ws, ∀ (a' : Array Value) (U : State), s.WarmedH U.vm → w.before a' U = true) ∧ Cond.codeWith y bytes maxL ret hh ∈ ws) ∧
  (Cond.codeWith y bytes maxL ret hh).before args s = true ∧ (Cond.initialized y.cls).before args s = true ∧ (y.cls ≠ "java/lang/invoke/MethodHandle" ∧ y.cls ≠ "java/lang/invoke/VarHandle") ∧
  (∀ sig, parseMethodDescriptor y.desc = some sig → n = sig.parameters.length) ∧ (Cond.methodLink own index y).before args s = true ∧ (Cond.instanceMethod y).before args s = true ∧ (Cond.selects C y y).before args s = true
theorem vx_cwVW {own C : String} {index maxL mc ms : Nat} {y : MethodName} {bytes : ByteArray} {ret : Option FieldType} {hh : List (Nat × Nat × Nat × Nat)} {Ts ws ws' : List Cond} {rm : Room} (n : Nat) (ht : ∀ w ∈ Ts, w.before args s = true) (hT : GoodIn Ts (wsV own index C y ws)) (hw : ws = Cond.codeWith y bytes maxL ret hh :: ws') (hrc : rm.cells = mc) (hrs : rm.slots = ms)
    (hd : y.cls = C ∧ y.cls ≠ "java/lang/invoke/MethodHandle" ∧ y.cls ≠ "java/lang/invoke/VarHandle" ∧ (parseMethodDescriptor y.desc).map (fun d => d.parameters.length) = some n) (hR : rm.frames + 1 ≤ R.frames ∧ 8 + (maxL + 11) + rm.locals ≤ R.locals) :
    vx_CVW R s args own C index y bytes maxL ret hh ws rm mc ms n := by
  obtain ⟨hC, hd⟩ := hd
  subst hC
  have ok : ∀ w ∈ wsV own index y.cls y ws, w.before args s = true := fun w h => ht w (hT w h).1
  have hG : GoodIn Ts ws := fun w h => hT w (by unfold wsV; exact List.mem_append_right _ h)
  have hc : Cond.codeWith y bytes maxL ret hh ∈ ws := by rw [hw]; exact List.mem_cons_self
  refine ⟨⟨hrc, hrs, hR.1, hR.2, pay_in ht hG, hc⟩, ht _ (hG _ hc).1, ok _ (by simp [wsV]), ⟨hd.1, hd.2.1⟩, fun sig h => ?_, ok _ (by simp [wsV]), ok _ (by simp [wsV]), ok _ (by simp [wsV])⟩
  have h2 := hd.2.2
  rw [h] at h2
  exact (Option.some.inj h2).symm
theorem vx_runVW {y : MethodName} {bytes cc : ByteArray} {maxL nL mc ms n index : Nat} {ret : Option FieldType} {hh : List (Nat × Nat × Nat × Nat)} {ws : List Cond} {rm : Room} {Pc : Array Value → State → Prop} {Qc : Array Value → State → Outcome → State → Prop} {free : Addr → Prop} {Ts : List Cond} {own C : String} {b : Addr} {As rest : List Value} {g : JFrame}
    (S : CallFix p m c cc nL s args Ts own) (hM : Met l y ws rm Pc Qc mc ms free) (cw : vx_CVW R s args own C index y bytes maxL ret hh ws rm mc ms n) (hp : PreV s H C b Pc As)
    (hg : g.method = m) (hn : As.length = n) (hsize : g.locals.size = nL) (hstack : g.stack = As.reverse ++ .ref b :: rest) (hW : 2 * g.monitorRoom + (rest.map fun v => v.category).sum ≤ 8) (hdg : decode cc g.pc = .ok (.invokevirtual index, 3)) (hf : cells + mc ≤ R.cells ∧ slots + ms ≤ R.slots) :
    va_Run p l e R s m args below meth c H locs cells slots mc ms g rest (Qc (Value.ref b :: As).toArray) free := by
  obtain ⟨⟨hrc, hrs, hfr, hlo, hws, hcw⟩, hcode, hini, hy, hlen, hl, hin, hse⟩ := cw
  have hK : Back l R p e below s args y 3 8 (PreOf R mc ms Pc) (PostOf Qc mc ms free) := va_backW (hh := hh) (bytes := bytes) (maxL := maxL) (ret := ret) hM hp.1 hrc hrs hfr hlo hws hcw (fun a' U hW => word_at hW (Or.inl (by first | rfl | simp [Cond.onTables, Cond.keeps, Cond.steady])) hini)
  obtain ⟨hx, hb, hml, ho, -⟩ := S
  obtain ⟨-, ⟨cellB, hcB, hoB, hclB⟩, hPc⟩ := hp
  intro T hT X
  obtain ⟨v, vm₁, ⟨U', l2, c2, s2⟩, hW₁, X', ⟨g', mk, t, L, e1, e2, hq, h1, hL, h2, h3⟩, st⟩ := vx_callVW X hx (C := C) (hh := hh) (bytes := bytes) (maxL := maxL) (ret := ret) ho hl hin hse hcode hy hK (by rw [hT]; exact hcB) hoB hclB hg (hsize.trans hml.symm) (argsL := As) (rest := rest) (fun sig h => hn.trans (hlen sig h)) hstack hW (by rw [hb]; exact hdg)
    (fun vm₁ hW₁ => ⟨hf.1, hf.2, hPc (T.setVm vm₁) hT hW₁⟩)
  dsimp only [Pt.U, Pt.locs, Pt.cells, Pt.slots] at X' e1 e2 h1 h2 h3 st
  subst h1; subst h2; subst h3
  exact ⟨v, (T.setVm vm₁).calling g' mk (Value.ref b :: As).toArray, t, U', L, hT, X', hL, e1, e2, hq, st⟩
section
variable {y : MethodName} {bytes cc : ByteArray} {maxL nL mc ms n index : Nat} {ret : Option FieldType} {ws : List Cond} {rm : Room} {Pc : Array Value → State → Prop} {Qc : Array Value → State → Outcome → State → Prop} {XC : String → State → State → Prop} {free : Addr → Prop} {Ts : List Cond} {own C : String} {b : Addr} {As rest : List Value} {g : JFrame}
theorem vx_runVX {hh : List (Nat × Nat × Nat × Nat)} (S : CallFix p m c cc nL s args Ts own) (hM : vx_Met l y ws rm Pc Qc XC mc ms free) (cw : vx_CVW R s args own C index y bytes maxL ret hh ws rm mc ms n) (hp : PreV s H C b Pc As)
    (hg : g.method = m) (hn : As.length = n) (hsize : g.locals.size = nL) (hstack : g.stack = As.reverse ++ .ref b :: rest) (hW : 2 * g.monitorRoom + (rest.map fun v => v.category).sum ≤ 8) (hdg : decode cc g.pc = .ok (.invokevirtual index, 3)) (hf : cells + mc ≤ R.cells ∧ slots + ms ≤ R.slots) :
    vx_Run p l e R s m args below meth c H locs cells slots mc ms g rest (Qc (Value.ref b :: As).toArray) XC free := by
  obtain ⟨⟨hrc, hrs, hfr, hlo, hws, hcw⟩, hcode, hini, hy, hlen, hl, hin, hse⟩ := cw
  have hK : vx_Back l R p e below s args y 3 8 (PreOf R mc ms Pc) (PostOf Qc mc ms free) (vx_Post XC mc ms free) := vx_backW (hh := hh) (bytes := bytes) (maxL := maxL) (ret := ret) hM hp.1 hrc hrs hfr hlo hws hcw (fun a' U hW => word_at hW (Or.inl (by first | rfl | simp [Cond.onTables, Cond.keeps, Cond.steady])) hini)
  obtain ⟨hx, hb, hml, ho, -⟩ := S
  obtain ⟨-, ⟨cellB, hcB, hoB, hclB⟩, hPc⟩ := hp
  intro T hT X
  rcases vx_callVX X hx (C := C) (hh := hh) (bytes := bytes) (maxL := maxL) (ret := ret) ho hl hin hse hcode hy hK (by rw [hT]; exact hcB) hoB hclB hg (hsize.trans hml.symm) (argsL := As) (rest := rest) (fun sig h => hn.trans (hlen sig h)) hstack hW (by rw [hb]; exact hdg)
    (fun vm₁ hW₁ => ⟨hf.1, hf.2, hPc (T.setVm vm₁) hT hW₁⟩) with ⟨v, vm₁, ⟨U', l2, c2, s2⟩, hW₁, X', ⟨g', mk, t, L, e1, e2, hq, h1, hL, h2, h3⟩, st⟩ | ⟨q, vm₁, ⟨U', l2, c2, s2⟩, hW₁, X', ⟨g', mk, t, L, E, ce, e1, e2, hq, hce, hcv, hcl, h1, hL, h2, h3⟩, st⟩
  · dsimp only [Pt.U, Pt.locs, Pt.cells, Pt.slots] at X' e1 e2 h1 h2 h3 st
    subst h1; subst h2; subst h3
    exact Or.inl ⟨v, (T.setVm vm₁).calling g' mk (Value.ref b :: As).toArray, t, U', L, hT, X', hL, e1, e2, hq, st⟩
  · dsimp only [Pt.U, Pt.locs, Pt.cells, Pt.slots] at X' e1 e2 h1 h2 h3 st hcl
    subst h1; subst h2; subst h3
    exact Or.inr ⟨q, (T.setVm vm₁).calling g' mk (Value.ref b :: As).toArray, t, U', L, E, ce, hT, X', hL, e1, e2, hq, hce, hcv, vx_cls hW₁ hcl, st⟩
theorem vx_runSX {hh : List (Nat × Nat × Nat × Nat)} (S : CallFix p m c cc nL s args Ts own) (hM : vx_Met l y ws rm Pc Qc XC mc ms free) (cw : vx_CSW R s args own index y bytes maxL ret hh ws rm mc ms n) (hp : PreS s H Pc As)
    (hg : g.method = m) (hn : As.length = n) (hsize : g.locals.size = nL) (hstack : g.stack = As.reverse ++ rest) (hW : 2 * g.monitorRoom + (rest.map fun v => v.category).sum ≤ 8) (hdg : decode cc g.pc = .ok (.invokestatic index, 3)) (hf : cells + mc ≤ R.cells ∧ slots + ms ≤ R.slots) :
    vx_Run p l e R s m args below meth c H locs cells slots mc ms g rest (Qc As.toArray) XC free := by
  obtain ⟨⟨hrc, hrs, hfr, hlo, hws, hcw⟩, hcode, hini, hy, hlen, hl, hstt⟩ := cw
  have hK : vx_Back l R p e below s args y 3 8 (PreOf R mc ms Pc) (PostOf Qc mc ms free) (vx_Post XC mc ms free) := vx_backW (hh := hh) (bytes := bytes) (maxL := maxL) (ret := ret) hM hp.1 hrc hrs hfr hlo hws hcw (fun a' U hW => word_at hW (Or.inl (by first | rfl | simp [Cond.onTables, Cond.keeps, Cond.steady])) hini)
  obtain ⟨hx, hb, hml, ho, -⟩ := S
  intro T hT X
  rcases vx_callSX X hx (hh := hh) (bytes := bytes) (maxL := maxL) (ret := ret) ho hl hstt hini hcode hy hK hg (hsize.trans hml.symm) (argsL := As) (rest := rest) (fun sig h => hn.trans (hlen sig h)) hstack hW (by rw [hb]; exact hdg)
    (fun vm₁ hW₁ => ⟨hf.1, hf.2, hp.2 (T.setVm vm₁) hT hW₁⟩) with ⟨v, vm₁, ⟨U', l2, c2, s2⟩, hW₁, X', ⟨g', mk, t, L, e1, e2, hq, h1, hL, h2, h3⟩, st⟩ | ⟨q, vm₁, ⟨U', l2, c2, s2⟩, hW₁, X', ⟨g', mk, t, L, E, ce, e1, e2, hq, hce, hcv, hcl, h1, hL, h2, h3⟩, st⟩
  · dsimp only [Pt.U, Pt.locs, Pt.cells, Pt.slots] at X' e1 e2 h1 h2 h3 st
    subst h1; subst h2; subst h3
    exact Or.inl ⟨v, (T.setVm vm₁).calling g' mk As.toArray, t, U', L, hT, X', hL, e1, e2, hq, st⟩
  · dsimp only [Pt.U, Pt.locs, Pt.cells, Pt.slots] at X' e1 e2 h1 h2 h3 st hcl
    subst h1; subst h2; subst h3
    exact Or.inr ⟨q, (T.setVm vm₁).calling g' mk As.toArray, t, U', L, E, ce, hT, X', hL, e1, e2, hq, hce, hcv, vx_cls hW₁ hcl, st⟩
end
end VXH
theorem vx_ofWH {l : Launch} {y : MethodName} {ws ws' : List Cond} {rm : Room} {Pc : Array Value → State → Prop} {Qc : Array Value → State → Outcome → State → Prop} {XC : String → State → State → Prop} {mc ms : Nat} {free : Addr → Prop} {cc : ByteArray} {maxL : Nat} {ret : Option FieldType} {hh : List (Nat × Nat × Nat × Nat)}
    (hy : plainName y.cls = true) (hw : ws = Cond.codeWith y cc maxL ret hh :: ws')
    (body : ∀ p e s m args below meth c s₁, BodyLoose p l y (headSpec ws rm) cc maxL ret e s m args below meth c s₁ → c.maxLocals = maxL → Pc args s →
      W p l e (headSpec ws rm).room s m args below meth c s.heap [] 0 0 (vx_MQ below Qc XC args s mc ms free) (entryFrame m args maxL)) : vx_Met l y ws rm Pc Qc XC mc ms free := by
  refine MetFree.of_bodyS (code := cc) (maxLocals := maxL) (ret := ret) hy ?_ ?_
  · intro args s m h hn
    obtain ⟨m9, meth, c, hn9, h1, h2, h3, h4, -, h5, h6, -⟩ := Cond.codeWith_spec (atoms_spec (ws := ws) h _ (by rw [hw]; exact List.mem_cons_self))
    cases hn.symm.trans hn9
    exact ⟨meth, c, h1, h2, h3, h4, h5, h6⟩
  · intro p e s m args below meth c s₁ B hml hP _
    have hh0 : s₁.heap = s.heap := by rw [B.state]; rfl
    obtain ⟨t, a1, o, b1, b2, b3⟩ := body p e s m args below meth c s₁ B hml hP s₁ hh0 (Stand.of_body B)
    exact ⟨t, o, a1, b1, b2, b3⟩
/-! ===== END ===== -/
end
section
/-! ===== BEGIN printed: names, fields, word lists, decode rows ===== -/
def RX0 : String := "Queuefloat$Limits"
def TX0 : u_T := fun k => match k with
  | 0 => ("Queuefloat$Limits", "floorOf", "[I", true)
  | _ => ("Queuefloat$Limits", "boundOf", "[I", true)
def tyX0 : Nat → FieldType := fun k => match k with
  | 0 => .array .int
  | _ => .array .int
abbrev wsX00 : List Cond := u_ws RX0 TX0 2
theorem nmX0 : ∀ a, a < 2 → ∀ b, b < 2 → a ≠ b → (TX0 a).2.1 ≠ (TX0 b).2.1 := by decide +kernel
theorem tyX0_ok : ∀ k, k < 2 → parseFieldDescriptor (TX0 k).2.2.1 = some (tyX0 k) := by decide +kernel
abbrev cX0_init : ByteArray := prog_2_method_1_code
def yX0_init : MethodName := ⟨RX0, "<init>", "()V"⟩
abbrev cX0_allow : ByteArray := prog_2_method_2_code
def yX0_allow : MethodName := ⟨RX0, "allow", "(LQueuefloat$Sums;)Z"⟩
def RX1 : String := "Queuefloat$Loans"
def TX1 : u_T := fun k => match k with
  | 0 => ("Queuefloat$Loans", "lender", "[I", true)
  | 1 => ("Queuefloat$Loans", "borrower", "[I", true)
  | 2 => ("Queuefloat$Loans", "due", "[I", true)
  | 3 => ("Queuefloat$Loans", "pledge", "[I", true)
  | 4 => ("Queuefloat$Loans", "made", "I", false)
  | _ => ("Queuefloat$Loans", "ended", "I", false)
def tyX1 : Nat → FieldType := fun k => match k with
  | 0 => .array .int
  | 1 => .array .int
  | 2 => .array .int
  | 3 => .array .int
  | 4 => .int
  | _ => .int
abbrev wsX10 : List Cond := u_ws RX1 TX1 6
theorem nmX1 : ∀ a, a < 6 → ∀ b, b < 6 → a ≠ b → (TX1 a).2.1 ≠ (TX1 b).2.1 := by decide +kernel
theorem tyX1_ok : ∀ k, k < 6 → parseFieldDescriptor (TX1 k).2.2.1 = some (tyX1 k) := by decide +kernel
abbrev cX1_init : ByteArray := prog_3_method_1_code
def yX1_init : MethodName := ⟨RX1, "<init>", "()V"⟩
abbrev cX1_enter : ByteArray := prog_3_method_2_code
def yX1_enter : MethodName := ⟨RX1, "enter", "(IIII)I"⟩
def RX2 : String := "Queuefloat$Payments"
def TX2 : u_T := fun k => match k with
  | 0 => ("Queuefloat$Payments", "from", "[I", true)
  | 1 => ("Queuefloat$Payments", "to", "[I", true)
  | 2 => ("Queuefloat$Payments", "amount", "[I", true)
  | 3 => ("Queuefloat$Payments", "priorityOf", "[I", true)
  | 4 => ("Queuefloat$Payments", "waits", "[Z", true)
  | 5 => ("Queuefloat$Payments", "byPriority", "[I", true)
  | _ => ("Queuefloat$Payments", "made", "I", false)
def tyX2 : Nat → FieldType := fun k => match k with
  | 0 => .array .int
  | 1 => .array .int
  | 2 => .array .int
  | 3 => .array .int
  | 4 => .array .boolean
  | 5 => .array .int
  | _ => .int
abbrev wsX20 : List Cond := u_ws RX2 TX2 7
theorem nmX2 : ∀ a, a < 7 → ∀ b, b < 7 → a ≠ b → (TX2 a).2.1 ≠ (TX2 b).2.1 := by decide +kernel
theorem tyX2_ok : ∀ k, k < 7 → parseFieldDescriptor (TX2 k).2.2.1 = some (tyX2 k) := by decide +kernel
abbrev cX2_init : ByteArray := prog_4_method_1_code
def yX2_init : MethodName := ⟨RX2, "<init>", "()V"⟩
abbrev cX2_enter : ByteArray := prog_4_method_2_code
def yX2_enter : MethodName := ⟨RX2, "enter", "(IIII)I"⟩
abbrev cX2_apply : ByteArray := prog_4_method_3_code
def yX2_apply : MethodName := ⟨RX2, "apply", "(ILQueuefloat$Sums;)V"⟩
abbrev cX2_waitsAt : ByteArray := prog_4_method_4_code
def yX2_waitsAt : MethodName := ⟨RX2, "waitsAt", "(II)Z"⟩
abbrev cX2_inQueue : ByteArray := prog_4_method_5_code
def yX2_inQueue : MethodName := ⟨RX2, "inQueue", "(II)I"⟩
abbrev cX2_countWaiting : ByteArray := prog_4_method_6_code
def yX2_countWaiting : MethodName := ⟨RX2, "countWaiting", "()I"⟩
abbrev cX2_dropAllOf : ByteArray := prog_4_method_7_code
def yX2_dropAllOf : MethodName := ⟨RX2, "dropAllOf", "(I)V"⟩
def RX3 : String := "Queuefloat$Sums"
def TX3 : u_T := fun k => match k with
  | 0 => ("Queuefloat$Sums", "accountOf", "[I", true)
  | _ => ("Queuefloat$Sums", "netPaid", "[I", true)
def tyX3 : Nat → FieldType := fun k => match k with
  | 0 => .array .int
  | _ => .array .int
abbrev wsX30 : List Cond := u_ws RX3 TX3 2
theorem nmX3 : ∀ a, a < 2 → ∀ b, b < 2 → a ≠ b → (TX3 a).2.1 ≠ (TX3 b).2.1 := by decide +kernel
theorem tyX3_ok : ∀ k, k < 2 → parseFieldDescriptor (TX3 k).2.2.1 = some (tyX3 k) := by decide +kernel
abbrev cX3_init : ByteArray := prog_5_method_1_code
def yX3_init : MethodName := ⟨RX3, "<init>", "()V"⟩
abbrev cX3_move : ByteArray := prog_5_method_2_code
def yX3_move : MethodName := ⟨RX3, "move", "(III)V"⟩
abbrev cX3_notePaid : ByteArray := prog_5_method_3_code
def yX3_notePaid : MethodName := ⟨RX3, "notePaid", "(III)V"⟩
abbrev cX3_forgetPaid : ByteArray := prog_5_method_4_code
def yX3_forgetPaid : MethodName := ⟨RX3, "forgetPaid", "()V"⟩
abbrev cX3_copy : ByteArray := prog_5_method_5_code
def yX3_copy : MethodName := ⟨RX3, "copy", "(LQueuefloat$Sums;)V"⟩
def RX4 : String := "Queuefloat"
def TX4 : u_T := fun k => match k with
  | 0 => ("Queuefloat", "sums", "LQueuefloat$Sums;", true)
  | 1 => ("Queuefloat", "trial", "LQueuefloat$Sums;", true)
  | 2 => ("Queuefloat", "limits", "LQueuefloat$Limits;", true)
  | 3 => ("Queuefloat", "payments", "LQueuefloat$Payments;", true)
  | 4 => ("Queuefloat", "market", "LQueuefloat$Loans;", true)
  | 5 => ("Queuefloat", "closed", "[Z", true)
  | 6 => ("Queuefloat", "papersOf", "[I", true)
  | 7 => ("Queuefloat", "candidates", "[I", true)
  | 8 => ("Queuefloat", "small", "I", false)
  | 9 => ("Queuefloat", "paperPrice", "I", false)
  | 10 => ("Queuefloat", "paperCut", "I", false)
  | _ => ("Queuefloat", "proceeds", "I", false)
def tyX4 : Nat → FieldType := fun k => match k with
  | 0 => .object "Queuefloat$Sums"
  | 1 => .object "Queuefloat$Sums"
  | 2 => .object "Queuefloat$Limits"
  | 3 => .object "Queuefloat$Payments"
  | 4 => .object "Queuefloat$Loans"
  | 5 => .array .boolean
  | 6 => .array .int
  | 7 => .array .int
  | 8 => .int
  | 9 => .int
  | 10 => .int
  | _ => .int
abbrev wsX40 : List Cond := u_ws RX4 TX4 12
theorem nmX4 : ∀ a, a < 12 → ∀ b, b < 12 → a ≠ b → (TX4 a).2.1 ≠ (TX4 b).2.1 := by decide +kernel
theorem tyX4_ok : ∀ k, k < 12 → parseFieldDescriptor (TX4 k).2.2.1 = some (tyX4 k) := by decide +kernel
abbrev cX4_init : ByteArray := prog_1_method_1_code
def yX4_init : MethodName := ⟨RX4, "<init>", "()V"⟩
abbrev cX4_fund : ByteArray := prog_1_method_2_code
def yX4_fund : MethodName := ⟨RX4, "fund", "(II)I"⟩
abbrev cX4_setFloor : ByteArray := prog_1_method_3_code
def yX4_setFloor : MethodName := ⟨RX4, "setFloor", "(II)I"⟩
abbrev cX4_setBound : ByteArray := prog_1_method_4_code
def yX4_setBound : MethodName := ⟨RX4, "setBound", "(III)I"⟩
abbrev cX4_givePapers : ByteArray := prog_1_method_5_code
def yX4_givePapers : MethodName := ⟨RX4, "givePapers", "(II)I"⟩
abbrev cX4_account : ByteArray := prog_1_method_6_code
def yX4_account : MethodName := ⟨RX4, "account", "(I)I"⟩
abbrev cX4_papers : ByteArray := prog_1_method_7_code
def yX4_papers : MethodName := ⟨RX4, "papers", "(I)I"⟩
abbrev cX4_isOpen : ByteArray := prog_1_method_8_code
def yX4_isOpen : MethodName := ⟨RX4, "isOpen", "(I)Z"⟩
abbrev cX4_paid : ByteArray := prog_1_method_9_code
def yX4_paid : MethodName := ⟨RX4, "paid", "(II)I"⟩
abbrev cX4_pay : ByteArray := prog_1_method_10_code
def yX4_pay : MethodName := ⟨RX4, "pay", "(IIII)I"⟩
abbrev cX4_drop : ByteArray := prog_1_method_11_code
def yX4_drop : MethodName := ⟨RX4, "drop", "(I)I"⟩
abbrev cX4_setSmall : ByteArray := prog_1_method_12_code
def yX4_setSmall : MethodName := ⟨RX4, "setSmall", "(I)I"⟩
abbrev cX4_run : ByteArray := prog_1_method_13_code
def yX4_run : MethodName := ⟨RX4, "run", "()I"⟩
abbrev cX4_queued : ByteArray := prog_1_method_14_code
def yX4_queued : MethodName := ⟨RX4, "queued", "(II)I"⟩
abbrev cX4_why : ByteArray := prog_1_method_15_code
def yX4_why : MethodName := ⟨RX4, "why", "(I)I"⟩
abbrev cX4_canAny : ByteArray := prog_1_method_16_code
def yX4_canAny : MethodName := ⟨RX4, "canAny", "()Z"⟩
abbrev cX4_setPrice : ByteArray := prog_1_method_17_code
def yX4_setPrice : MethodName := ⟨RX4, "setPrice", "(II)V"⟩
abbrev cX4_lend : ByteArray := prog_1_method_18_code
def yX4_lend : MethodName := ⟨RX4, "lend", "(IIIII)I"⟩
abbrev cX4_loans : ByteArray := prog_1_method_19_code
def yX4_loans : MethodName := ⟨RX4, "loans", "()I"⟩
abbrev cX4_morning : ByteArray := prog_1_method_20_code
def yX4_morning : MethodName := ⟨RX4, "morning", "()I"⟩
abbrev cX4_sold : ByteArray := prog_1_method_21_code
def yX4_sold : MethodName := ⟨RX4, "sold", "()I"⟩
abbrev cX4_requireBank : ByteArray := prog_1_method_22_code
def yX4_requireBank : MethodName := ⟨RX4, "requireBank", "(I)V"⟩
abbrev cX4_requireTwo : ByteArray := prog_1_method_23_code
def yX4_requireTwo : MethodName := ⟨RX4, "requireTwo", "(II)V"⟩
abbrev cX4_requireRange : ByteArray := prog_1_method_24_code
def yX4_requireRange : MethodName := ⟨RX4, "requireRange", "(III)V"⟩
abbrev cX4_requireOpen : ByteArray := prog_1_method_25_code
def yX4_requireOpen : MethodName := ⟨RX4, "requireOpen", "(I)V"⟩
abbrev cX4_requirePayment : ByteArray := prog_1_method_26_code
def yX4_requirePayment : MethodName := ⟨RX4, "requirePayment", "(I)V"⟩
abbrev cX4_requireLoanable : ByteArray := prog_1_method_27_code
def yX4_requireLoanable : MethodName := ⟨RX4, "requireLoanable", "(IIII)V"⟩
abbrev cX4_pairOf : ByteArray := prog_1_method_28_code
def yX4_pairOf : MethodName := ⟨RX4, "pairOf", "(II)I"⟩
abbrev cX4_obstacle : ByteArray := prog_1_method_29_code
def yX4_obstacle : MethodName := ⟨RX4, "obstacle", "(I)I"⟩
abbrev cX4_send : ByteArray := prog_1_method_30_code
def yX4_send : MethodName := ⟨RX4, "send", "(I)V"⟩
abbrev cX4_goThroughBanks : ByteArray := prog_1_method_31_code
def yX4_goThroughBanks : MethodName := ⟨RX4, "goThroughBanks", "()I"⟩
abbrev cX4_nextToGo : ByteArray := prog_1_method_32_code
def yX4_nextToGo : MethodName := ⟨RX4, "nextToGo", "(I)I"⟩
abbrev cX4_firstSmallFree : ByteArray := prog_1_method_33_code
def yX4_firstSmallFree : MethodName := ⟨RX4, "firstSmallFree", "(I)I"⟩
abbrev cX4_sendLargestSet : ByteArray := prog_1_method_34_code
def yX4_sendLargestSet : MethodName := ⟨RX4, "sendLargestSet", "()I"⟩
abbrev cX4_listWaiting : ByteArray := prog_1_method_35_code
def yX4_listWaiting : MethodName := ⟨RX4, "listWaiting", "()I"⟩
abbrev cX4_canGoTogether : ByteArray := prog_1_method_36_code
def yX4_canGoTogether : MethodName := ⟨RX4, "canGoTogether", "(II)Z"⟩
abbrev cX4_isIn : ByteArray := prog_1_method_37_code
def yX4_isIn : MethodName := ⟨RX4, "isIn", "(II)Z"⟩
abbrev cX4_pledgeWorth : ByteArray := prog_1_method_38_code
def yX4_pledgeWorth : MethodName := ⟨RX4, "pledgeWorth", "(I)I"⟩
abbrev cX4_canRepay : ByteArray := prog_1_method_39_code
def yX4_canRepay : MethodName := ⟨RX4, "canRepay", "(I)Z"⟩
abbrev cX4_repay : ByteArray := prog_1_method_40_code
def yX4_repay : MethodName := ⟨RX4, "repay", "(I)V"⟩
abbrev cX4_close : ByteArray := prog_1_method_41_code
def yX4_close : MethodName := ⟨RX4, "close", "(I)I"⟩
abbrev cX4_sellPledge : ByteArray := prog_1_method_42_code
def yX4_sellPledge : MethodName := ⟨RX4, "sellPledge", "(I)V"⟩
def RX5 : String := "QueuefloatModel"
def TX5 : u_T := fun k => match k with
  | 0 => ("QueuefloatModel", "account", "[I", true)
  | 1 => ("QueuefloatModel", "floor", "[I", true)
  | 2 => ("QueuefloatModel", "papers", "[I", true)
  | 3 => ("QueuefloatModel", "isClosed", "[Z", true)
  | 4 => ("QueuefloatModel", "paid", "[I", true)
  | 5 => ("QueuefloatModel", "bound", "[I", true)
  | 6 => ("QueuefloatModel", "payments", "I", false)
  | 7 => ("QueuefloatModel", "from", "[I", true)
  | 8 => ("QueuefloatModel", "to", "[I", true)
  | 9 => ("QueuefloatModel", "amount", "[I", true)
  | 10 => ("QueuefloatModel", "priority", "[I", true)
  | 11 => ("QueuefloatModel", "isWaiting", "[Z", true)
  | 12 => ("QueuefloatModel", "small", "I", false)
  | 13 => ("QueuefloatModel", "first", "[I", true)
  | 14 => ("QueuefloatModel", "loans", "I", false)
  | 15 => ("QueuefloatModel", "lender", "[I", true)
  | 16 => ("QueuefloatModel", "borrower", "[I", true)
  | 17 => ("QueuefloatModel", "lent", "[I", true)
  | 18 => ("QueuefloatModel", "rate", "[I", true)
  | 19 => ("QueuefloatModel", "pledged", "[I", true)
  | 20 => ("QueuefloatModel", "isOpen", "[Z", true)
  | 21 => ("QueuefloatModel", "price", "I", false)
  | 22 => ("QueuefloatModel", "cut", "I", false)
  | 23 => ("QueuefloatModel", "sold", "I", false)
  | _ => ("QueuefloatModel", "thrown", "I", false)
def tyX5 : Nat → FieldType := fun k => match k with
  | 0 => .array .int
  | 1 => .array .int
  | 2 => .array .int
  | 3 => .array .boolean
  | 4 => .array .int
  | 5 => .array .int
  | 6 => .int
  | 7 => .array .int
  | 8 => .array .int
  | 9 => .array .int
  | 10 => .array .int
  | 11 => .array .boolean
  | 12 => .int
  | 13 => .array .int
  | 14 => .int
  | 15 => .array .int
  | 16 => .array .int
  | 17 => .array .int
  | 18 => .array .int
  | 19 => .array .int
  | 20 => .array .boolean
  | 21 => .int
  | 22 => .int
  | 23 => .int
  | _ => .int
abbrev wsX50 : List Cond := u_ws RX5 TX5 25
theorem nmX5 : ∀ a, a < 25 → ∀ b, b < 25 → a ≠ b → (TX5 a).2.1 ≠ (TX5 b).2.1 := by decide +kernel
theorem tyX5_ok : ∀ k, k < 25 → parseFieldDescriptor (TX5 k).2.2.1 = some (tyX5 k) := by decide +kernel
abbrev cX5_init : ByteArray := prog_7_method_1_code
def yX5_init : MethodName := ⟨RX5, "<init>", "()V"⟩
abbrev cX5_thrown : ByteArray := prog_7_method_2_code
def yX5_thrown : MethodName := ⟨RX5, "thrown", "()I"⟩
abbrev cX5_fails : ByteArray := prog_7_method_3_code
def yX5_fails : MethodName := ⟨RX5, "fails", "(I)I"⟩
abbrev cX5_asks : ByteArray := prog_7_method_4_code
def yX5_asks : MethodName := ⟨RX5, "asks", "(Z)Z"⟩
abbrev cX5_in : ByteArray := prog_7_method_5_code
def yX5_in : MethodName := ⟨RX5, "in", "(III)Z"⟩
abbrev cX5_isBank : ByteArray := prog_7_method_6_code
def yX5_isBank : MethodName := ⟨RX5, "isBank", "(I)Z"⟩
abbrev cX5_isPayment : ByteArray := prog_7_method_7_code
def yX5_isPayment : MethodName := ⟨RX5, "isPayment", "(I)Z"⟩
abbrev cX5_fund : ByteArray := prog_7_method_8_code
def yX5_fund : MethodName := ⟨RX5, "fund", "(II)I"⟩
abbrev cX5_setFloor : ByteArray := prog_7_method_9_code
def yX5_setFloor : MethodName := ⟨RX5, "setFloor", "(II)I"⟩
abbrev cX5_setBound : ByteArray := prog_7_method_10_code
def yX5_setBound : MethodName := ⟨RX5, "setBound", "(III)I"⟩
abbrev cX5_givePapers : ByteArray := prog_7_method_11_code
def yX5_givePapers : MethodName := ⟨RX5, "givePapers", "(II)I"⟩
abbrev cX5_account : ByteArray := prog_7_method_12_code
def yX5_account : MethodName := ⟨RX5, "account", "(I)I"⟩
abbrev cX5_papers : ByteArray := prog_7_method_13_code
def yX5_papers : MethodName := ⟨RX5, "papers", "(I)I"⟩
abbrev cX5_isOpen : ByteArray := prog_7_method_14_code
def yX5_isOpen : MethodName := ⟨RX5, "isOpen", "(I)Z"⟩
abbrev cX5_paid : ByteArray := prog_7_method_15_code
def yX5_paid : MethodName := ⟨RX5, "paid", "(II)I"⟩
abbrev cX5_pay : ByteArray := prog_7_method_16_code
def yX5_pay : MethodName := ⟨RX5, "pay", "(IIII)I"⟩
abbrev cX5_waiting : ByteArray := prog_7_method_17_code
def yX5_waiting : MethodName := ⟨RX5, "waiting", "()I"⟩
abbrev cX5_drop : ByteArray := prog_7_method_18_code
def yX5_drop : MethodName := ⟨RX5, "drop", "(I)I"⟩
abbrev cX5_setSmall : ByteArray := prog_7_method_19_code
def yX5_setSmall : MethodName := ⟨RX5, "setSmall", "(I)I"⟩
abbrev cX5_at : ByteArray := prog_7_method_20_code
def yX5_at : MethodName := ⟨RX5, "at", "(II)I"⟩
abbrev cX5_reason : ByteArray := prog_7_method_21_code
def yX5_reason : MethodName := ⟨RX5, "reason", "(I)I"⟩
abbrev cX5_moves : ByteArray := prog_7_method_22_code
def yX5_moves : MethodName := ⟨RX5, "moves", "(II)V"⟩
abbrev cX5_goes : ByteArray := prog_7_method_23_code
def yX5_goes : MethodName := ⟨RX5, "goes", "(I)V"⟩
abbrev cX5_isSound : ByteArray := prog_7_method_24_code
def yX5_isSound : MethodName := ⟨RX5, "isSound", "()Z"⟩
abbrev cX5_next : ByteArray := prog_7_method_25_code
def yX5_next : MethodName := ⟨RX5, "next", "(I)I"⟩
abbrev cX5_goTogether : ByteArray := prog_7_method_26_code
def yX5_goTogether : MethodName := ⟨RX5, "goTogether", "()I"⟩
abbrev cX5_firsts : ByteArray := prog_7_method_27_code
def yX5_firsts : MethodName := ⟨RX5, "firsts", "(I)V"⟩
abbrev cX5_isSet : ByteArray := prog_7_method_28_code
def yX5_isSet : MethodName := ⟨RX5, "isSet", "(I)Z"⟩
abbrev cX5_run : ByteArray := prog_7_method_29_code
def yX5_run : MethodName := ⟨RX5, "run", "()I"⟩
abbrev cX5_queued : ByteArray := prog_7_method_30_code
def yX5_queued : MethodName := ⟨RX5, "queued", "(II)I"⟩
abbrev cX5_why : ByteArray := prog_7_method_31_code
def yX5_why : MethodName := ⟨RX5, "why", "(I)I"⟩
abbrev cX5_canAny : ByteArray := prog_7_method_32_code
def yX5_canAny : MethodName := ⟨RX5, "canAny", "()Z"⟩
abbrev cX5_moveSet : ByteArray := prog_7_method_33_code
def yX5_moveSet : MethodName := ⟨RX5, "moveSet", "(II)V"⟩
abbrev cX5_setPrice : ByteArray := prog_7_method_34_code
def yX5_setPrice : MethodName := ⟨RX5, "setPrice", "(II)V"⟩
abbrev cX5_lend : ByteArray := prog_7_method_35_code
def yX5_lend : MethodName := ⟨RX5, "lend", "(IIIII)I"⟩
abbrev cX5_loans : ByteArray := prog_7_method_36_code
def yX5_loans : MethodName := ⟨RX5, "loans", "()I"⟩
abbrev cX5_closes : ByteArray := prog_7_method_37_code
def yX5_closes : MethodName := ⟨RX5, "closes", "(I)V"⟩
abbrev cX5_ends : ByteArray := prog_7_method_38_code
def yX5_ends : MethodName := ⟨RX5, "ends", "(I)Z"⟩
abbrev cX5_morning : ByteArray := prog_7_method_39_code
def yX5_morning : MethodName := ⟨RX5, "morning", "()I"⟩
abbrev cX5_sold : ByteArray := prog_7_method_40_code
def yX5_sold : MethodName := ⟨RX5, "sold", "()I"⟩
def RJ6 : String := "java/lang/Integer"
def TJ6 : u_T := fun k => match k with
  | _ => ("", "", "", false)
def tyJ6 : Nat → FieldType := fun k => match k with
  | _ => .int
abbrev wsJ60 : List Cond := u_ws RJ6 TJ6 0
theorem nmJ6 : ∀ a, a < 0 → ∀ b, b < 0 → a ≠ b → (TJ6 a).2.1 ≠ (TJ6 b).2.1 := by decide +kernel
theorem tyJ6_ok : ∀ k, k < 0 → parseFieldDescriptor (TJ6 k).2.2.1 = some (tyJ6 k) := by decide +kernel
abbrev cJ6_bitCount_0f7a4 : ByteArray := prog_12_method_49_code
def yJ6_bitCount_0f7a4 : MethodName := ⟨RJ6, "bitCount", "(I)I"⟩
def RJ9 : String := "java/lang/Math"
def TJ9 : u_T := fun k => match k with
  | _ => ("", "", "", false)
def tyJ9 : Nat → FieldType := fun k => match k with
  | _ => .int
abbrev wsJ90 : List Cond := u_ws RJ9 TJ9 0
theorem nmJ9 : ∀ a, a < 0 → ∀ b, b < 0 → a ≠ b → (TJ9 a).2.1 ≠ (TJ9 b).2.1 := by decide +kernel
theorem tyJ9_ok : ∀ k, k < 0 → parseFieldDescriptor (TJ9 k).2.2.1 = some (tyJ9 k) := by decide +kernel
abbrev cJ9_max_7cf53 : ByteArray := prog_13_method_65_code
def yJ9_max_7cf53 : MethodName := ⟨RJ9, "max", "(II)I"⟩
abbrev cJ9_min_7cf53 : ByteArray := prog_13_method_69_code
def yJ9_min_7cf53 : MethodName := ⟨RJ9, "min", "(II)I"⟩
def RJ0 : String := "java/lang/String"
def TJ0 : u_T := fun k => match k with
  | _ => ("", "", "", false)
def tyJ0 : Nat → FieldType := fun k => match k with
  | _ => .int
abbrev wsJ00 : List Cond := u_ws RJ0 TJ0 0
theorem nmJ0 : ∀ a, a < 0 → ∀ b, b < 0 → a ≠ b → (TJ0 a).2.1 ≠ (TJ0 b).2.1 := by decide +kernel
theorem tyJ0_ok : ∀ k, k < 0 → parseFieldDescriptor (TJ0 k).2.2.1 = some (tyJ0 k) := by decide +kernel
def RJ10 : String := "java/lang/System"
def TJ10 : u_T := fun k => match k with
  | _ => ("", "", "", false)
def tyJ10 : Nat → FieldType := fun k => match k with
  | _ => .int
abbrev wsJ100 : List Cond := u_ws RJ10 TJ10 0
theorem nmJ10 : ∀ a, a < 0 → ∀ b, b < 0 → a ≠ b → (TJ10 a).2.1 ≠ (TJ10 b).2.1 := by decide +kernel
theorem tyJ10_ok : ∀ k, k < 0 → parseFieldDescriptor (TJ10 k).2.2.1 = some (tyJ10 k) := by decide +kernel
def RL : String := "QueuefloatLaw"
abbrev cL_fund : ByteArray := method_3_code
def yL_fund : MethodName := ⟨RL, "fund", "(LQueuefloat;II[J)I"⟩
abbrev cL_setFloor : ByteArray := method_4_code
def yL_setFloor : MethodName := ⟨RL, "setFloor", "(LQueuefloat;II[J)I"⟩
abbrev cL_setBound : ByteArray := method_5_code
def yL_setBound : MethodName := ⟨RL, "setBound", "(LQueuefloat;III[J)I"⟩
abbrev cL_givePapers : ByteArray := method_6_code
def yL_givePapers : MethodName := ⟨RL, "givePapers", "(LQueuefloat;II[J)I"⟩
abbrev cL_account : ByteArray := method_7_code
def yL_account : MethodName := ⟨RL, "account", "(LQueuefloat;I[J)I"⟩
abbrev cL_papers : ByteArray := method_8_code
def yL_papers : MethodName := ⟨RL, "papers", "(LQueuefloat;I[J)I"⟩
abbrev cL_isOpen : ByteArray := method_9_code
def yL_isOpen : MethodName := ⟨RL, "isOpen", "(LQueuefloat;I[J)I"⟩
abbrev cL_paid : ByteArray := method_10_code
def yL_paid : MethodName := ⟨RL, "paid", "(LQueuefloat;II[J)I"⟩
abbrev cL_pay : ByteArray := method_11_code
def yL_pay : MethodName := ⟨RL, "pay", "(LQueuefloat;IIII[J)I"⟩
abbrev cL_drop : ByteArray := method_12_code
def yL_drop : MethodName := ⟨RL, "drop", "(LQueuefloat;I[J)I"⟩
abbrev cL_setSmall : ByteArray := method_13_code
def yL_setSmall : MethodName := ⟨RL, "setSmall", "(LQueuefloat;I[J)I"⟩
abbrev cL_queued : ByteArray := method_14_code
def yL_queued : MethodName := ⟨RL, "queued", "(LQueuefloat;II[J)I"⟩
abbrev cL_why : ByteArray := method_15_code
def yL_why : MethodName := ⟨RL, "why", "(LQueuefloat;I[J)I"⟩
abbrev cL_canAny : ByteArray := method_16_code
def yL_canAny : MethodName := ⟨RL, "canAny", "(LQueuefloat;[J)I"⟩
abbrev cL_setPrice : ByteArray := method_17_code
def yL_setPrice : MethodName := ⟨RL, "setPrice", "(LQueuefloat;II)I"⟩
abbrev cL_lend : ByteArray := method_18_code
def yL_lend : MethodName := ⟨RL, "lend", "(LQueuefloat;IIIII[J)I"⟩
abbrev cL_law : ByteArray := code
def yL_law : MethodName := ⟨RL, "law", "([I)Z"⟩
def wsX0_init : List Cond := .code yX0_init cX0_init 2 none :: ([.methodLink RX0 3 objectInit, .instanceMethod objectInit, .code objectInit ⟨#[0xb1]⟩ 1 none, .arrayClass .int, .fieldLink RX0 9 "Queuefloat$Limits" "floorOf" "[I", .fieldLink RX0 15 "Queuefloat$Limits" "boundOf" "[I", .constant RX0 18 (1000000)] ++ wsX00)
def wsX0_allow : List Cond := .code yX0_allow cX0_allow 3 (some .boolean) :: ([.fieldLink RX0 19 "Queuefloat$Sums" "accountOf" "[I", .fieldLink RX0 9 "Queuefloat$Limits" "floorOf" "[I", .fieldLink RX0 24 "Queuefloat$Sums" "netPaid" "[I", .fieldLink RX0 15 "Queuefloat$Limits" "boundOf" "[I"] ++ wsX30 ++ wsX00)
def wsX1_init : List Cond := .code yX1_init cX1_init 1 none :: ([.methodLink RX1 3 objectInit, .instanceMethod objectInit, .code objectInit ⟨#[0xb1]⟩ 1 none, .arrayClass .int, .fieldLink RX1 9 "Queuefloat$Loans" "lender" "[I", .fieldLink RX1 15 "Queuefloat$Loans" "borrower" "[I", .fieldLink RX1 18 "Queuefloat$Loans" "due" "[I", .fieldLink RX1 21 "Queuefloat$Loans" "pledge" "[I"] ++ wsX10)
def wsX1_enter : List Cond := .code yX1_enter cX1_enter 6 (some .int) :: ([.fieldLink RX1 24 "Queuefloat$Loans" "made" "I", .fieldLink RX1 9 "Queuefloat$Loans" "lender" "[I", .fieldLink RX1 15 "Queuefloat$Loans" "borrower" "[I", .fieldLink RX1 18 "Queuefloat$Loans" "due" "[I", .fieldLink RX1 21 "Queuefloat$Loans" "pledge" "[I"] ++ wsX10)
def wsX2_init : List Cond := .code yX2_init cX2_init 1 none :: ([.methodLink RX2 3 objectInit, .instanceMethod objectInit, .code objectInit ⟨#[0xb1]⟩ 1 none, .arrayClass .int, .fieldLink RX2 9 "Queuefloat$Payments" "from" "[I", .fieldLink RX2 15 "Queuefloat$Payments" "to" "[I", .fieldLink RX2 18 "Queuefloat$Payments" "amount" "[I", .fieldLink RX2 21 "Queuefloat$Payments" "priorityOf" "[I", .arrayClass .boolean, .fieldLink RX2 24 "Queuefloat$Payments" "waits" "[Z", .fieldLink RX2 28 "Queuefloat$Payments" "byPriority" "[I"] ++ wsX20)
def wsX2_enter : List Cond := .code yX2_enter cX2_enter 7 (some .int) :: ([.fieldLink RX2 31 "Queuefloat$Payments" "made" "I", .fieldLink RX2 9 "Queuefloat$Payments" "from" "[I", .fieldLink RX2 15 "Queuefloat$Payments" "to" "[I", .fieldLink RX2 18 "Queuefloat$Payments" "amount" "[I", .fieldLink RX2 21 "Queuefloat$Payments" "priorityOf" "[I", .fieldLink RX2 24 "Queuefloat$Payments" "waits" "[Z", .fieldLink RX2 28 "Queuefloat$Payments" "byPriority" "[I"] ++ wsX20)
def wsX3_move : List Cond := .code yX3_move cX3_move 4 none :: ([.fieldLink RX3 9 "Queuefloat$Sums" "accountOf" "[I"] ++ wsX30)
def wsX4_pairOf : List Cond := .code yX4_pairOf cX4_pairOf 2 (some .int) :: ([])
def wsX3_notePaid : List Cond := .code yX3_notePaid cX3_notePaid 4 none :: ([.fieldLink RX3 15 "Queuefloat$Sums" "netPaid" "[I", .static yX4_pairOf, .initialized RX4, .code yX4_pairOf cX4_pairOf 2 (some .int)] ++ wsX30)
def wsX2_apply : List Cond := .code yX2_apply cX2_apply 3 none :: ([.fieldLink RX2 9 "Queuefloat$Payments" "from" "[I", .fieldLink RX2 15 "Queuefloat$Payments" "to" "[I", .fieldLink RX2 18 "Queuefloat$Payments" "amount" "[I", .methodLink RX2 35 yX3_move, .instanceMethod yX3_move, .selects RX3 yX3_move yX3_move, .initialized RX3, .code yX3_move cX3_move 4 none, .fieldLink RX3 9 "Queuefloat$Sums" "accountOf" "[I", .methodLink RX2 41 yX3_notePaid, .instanceMethod yX3_notePaid, .selects RX3 yX3_notePaid yX3_notePaid, .code yX3_notePaid cX3_notePaid 4 none, .fieldLink RX3 15 "Queuefloat$Sums" "netPaid" "[I", .static yX4_pairOf, .initialized RX4, .code yX4_pairOf cX4_pairOf 2 (some .int)] ++ wsX20 ++ wsX30)
def wsX2_waitsAt : List Cond := .code yX2_waitsAt cX2_waitsAt 3 (some .boolean) :: ([.fieldLink RX2 24 "Queuefloat$Payments" "waits" "[Z", .fieldLink RX2 9 "Queuefloat$Payments" "from" "[I"] ++ wsX20)
def wsX2_inQueue : List Cond := .code yX2_inQueue cX2_inQueue 5 (some .int) :: ([.fieldLink RX2 31 "Queuefloat$Payments" "made" "I", .fieldLink RX2 28 "Queuefloat$Payments" "byPriority" "[I", .methodLink RX2 44 yX2_waitsAt, .instanceMethod yX2_waitsAt, .selects RX2 yX2_waitsAt yX2_waitsAt, .initialized RX2, .code yX2_waitsAt cX2_waitsAt 3 (some .boolean), .fieldLink RX2 24 "Queuefloat$Payments" "waits" "[Z", .fieldLink RX2 9 "Queuefloat$Payments" "from" "[I"] ++ wsX20)
def wsX2_countWaiting : List Cond := .code yX2_countWaiting cX2_countWaiting 3 (some .int) :: ([.fieldLink RX2 31 "Queuefloat$Payments" "made" "I", .fieldLink RX2 24 "Queuefloat$Payments" "waits" "[Z"] ++ wsX20)
def wsX2_dropAllOf : List Cond := .code yX2_dropAllOf cX2_dropAllOf 3 none :: ([.fieldLink RX2 31 "Queuefloat$Payments" "made" "I", .fieldLink RX2 9 "Queuefloat$Payments" "from" "[I", .fieldLink RX2 15 "Queuefloat$Payments" "to" "[I", .fieldLink RX2 24 "Queuefloat$Payments" "waits" "[Z"] ++ wsX20)
def wsX3_init : List Cond := .code yX3_init cX3_init 1 none :: ([.methodLink RX3 3 objectInit, .instanceMethod objectInit, .code objectInit ⟨#[0xb1]⟩ 1 none, .arrayClass .int, .fieldLink RX3 9 "Queuefloat$Sums" "accountOf" "[I", .fieldLink RX3 15 "Queuefloat$Sums" "netPaid" "[I"] ++ wsX30)
def wsX3_forgetPaid : List Cond := .code yX3_forgetPaid cX3_forgetPaid 2 none :: ([.fieldLink RX3 15 "Queuefloat$Sums" "netPaid" "[I"] ++ wsX30)
def wsX3_copy : List Cond := .code yX3_copy cX3_copy 2 none :: ([.fieldLink RX3 9 "Queuefloat$Sums" "accountOf" "[I", .methodLink RX3 22 arraycopyName, .native arraycopyName, .static arraycopyName, .initialized "java/lang/System", .fieldLink RX3 15 "Queuefloat$Sums" "netPaid" "[I"] ++ wsX30)
def wsX4_init_r1 : List Cond := [Cond.methodLink RX4 1 objectInit, Cond.instanceMethod objectInit, Cond.code objectInit ⟨#[0xb1]⟩ 1 none, Cond.classLink RX4 7 RX3, Cond.instantiable RX3 2, Cond.initialized RX3, Cond.fieldLink RX4 10 "Queuefloat" "sums" "LQueuefloat$Sums;", Cond.fieldLink RX4 16 "Queuefloat" "trial" "LQueuefloat$Sums;", Cond.classLink RX4 19 RX0, Cond.instantiable RX0 2, Cond.initialized RX0, Cond.fieldLink RX4 22 "Queuefloat" "limits" "LQueuefloat$Limits;", Cond.classLink RX4 26 RX2, Cond.instantiable RX2 7, Cond.initialized RX2, Cond.fieldLink RX4 29 "Queuefloat" "payments" "LQueuefloat$Payments;", Cond.classLink RX4 33 RX1, Cond.instantiable RX1 6, Cond.initialized RX1, Cond.fieldLink RX4 36 "Queuefloat" "market" "LQueuefloat$Loans;", Cond.arrayClass .boolean, Cond.fieldLink RX4 40 "Queuefloat" "closed" "[Z", Cond.arrayClass .int, Cond.fieldLink RX4 44 "Queuefloat" "papersOf" "[I"]
def wsX4_init_r2 : List Cond := [Cond.fieldLink RX4 48 "Queuefloat" "candidates" "[I", Cond.fieldLink RX4 51 "Queuefloat" "small" "I", Cond.fieldLink RX4 55 "Queuefloat" "paperPrice" "I", Cond.fieldLink RX4 58 "Queuefloat" "paperCut" "I", Cond.methodLink RX4 9 yX3_init, Cond.instanceMethod yX3_init, Cond.code yX3_init cX3_init 1 none, Cond.methodLink RX3 3 objectInit, Cond.fieldLink RX3 9 "Queuefloat$Sums" "accountOf" "[I", Cond.fieldLink RX3 15 "Queuefloat$Sums" "netPaid" "[I", Cond.methodLink RX4 21 yX0_init, Cond.instanceMethod yX0_init, Cond.code yX0_init cX0_init 2 none, Cond.methodLink RX0 3 objectInit, Cond.fieldLink RX0 9 "Queuefloat$Limits" "floorOf" "[I", Cond.fieldLink RX0 15 "Queuefloat$Limits" "boundOf" "[I", Cond.constant RX0 18 (1000000), Cond.methodLink RX4 28 yX2_init, Cond.instanceMethod yX2_init, Cond.code yX2_init cX2_init 1 none, Cond.methodLink RX2 3 objectInit, Cond.fieldLink RX2 9 "Queuefloat$Payments" "from" "[I", Cond.fieldLink RX2 15 "Queuefloat$Payments" "to" "[I", Cond.fieldLink RX2 18 "Queuefloat$Payments" "amount" "[I"]
def wsX4_init_r3 : List Cond := [Cond.fieldLink RX2 21 "Queuefloat$Payments" "priorityOf" "[I", Cond.fieldLink RX2 24 "Queuefloat$Payments" "waits" "[Z", Cond.fieldLink RX2 28 "Queuefloat$Payments" "byPriority" "[I", Cond.methodLink RX4 35 yX1_init, Cond.instanceMethod yX1_init, Cond.code yX1_init cX1_init 1 none, Cond.methodLink RX1 3 objectInit, Cond.fieldLink RX1 9 "Queuefloat$Loans" "lender" "[I", Cond.fieldLink RX1 15 "Queuefloat$Loans" "borrower" "[I", Cond.fieldLink RX1 18 "Queuefloat$Loans" "due" "[I", Cond.fieldLink RX1 21 "Queuefloat$Loans" "pledge" "[I"]
def wsX4_init : List Cond := .code yX4_init cX4_init 1 none :: ((wsX4_init_r1 ++ (wsX4_init_r2 ++ wsX4_init_r3)) ++ wsX30 ++ wsX40 ++ wsX00 ++ wsX20 ++ wsX10)
def wsX4_requireBank : List Cond := .code yX4_requireBank cX4_requireBank 1 none :: ([.classLink RX4 140 "java/lang/IndexOutOfBoundsException", .initialized "java/lang/IndexOutOfBoundsException"] ++ (vx_atS RX4 144 "java/lang/IndexOutOfBoundsException" ["java/lang/RuntimeException", "java/lang/Exception"]).filter goodWord)
def wsX4_requireRange : List Cond := .code yX4_requireRange cX4_requireRange 3 none :: ([.classLink RX4 197 "java/lang/IllegalArgumentException", .initialized "java/lang/IllegalArgumentException"] ++ (vx_atS RX4 201 "java/lang/IllegalArgumentException" ["java/lang/RuntimeException", "java/lang/Exception"]).filter goodWord)
def wsX4_requireOpen : List Cond := .code yX4_requireOpen cX4_requireOpen 2 none :: ([.classLink RX4 77 "java/lang/IllegalStateException", .initialized "java/lang/IllegalStateException", .fieldLink RX4 40 "Queuefloat" "closed" "[Z"] ++ wsX40 ++ (vx_atS RX4 81 "java/lang/IllegalStateException" ["java/lang/RuntimeException", "java/lang/Exception"]).filter goodWord)
def wsX4_fund : List Cond := .code yX4_fund cX4_fund 3 (some .int) :: ([.classLink RX4 77 "java/lang/IllegalStateException", .initialized "java/lang/IllegalStateException", .constant RX4 65 (1000000), .fieldLink RX4 10 "Queuefloat" "sums" "LQueuefloat$Sums;", .fieldLink RX4 73 "Queuefloat$Sums" "accountOf" "[I", .constant RX4 76 (100000000), .methodLink RX4 61 yX4_requireBank, .static yX4_requireBank, .initialized RX4, .code yX4_requireBank cX4_requireBank 1 none, .classLink RX4 140 "java/lang/IndexOutOfBoundsException", .initialized "java/lang/IndexOutOfBoundsException", .methodLink RX4 66 yX4_requireRange, .static yX4_requireRange, .code yX4_requireRange cX4_requireRange 3 none, .classLink RX4 197 "java/lang/IllegalArgumentException", .initialized "java/lang/IllegalArgumentException", .methodLink RX4 70 yX4_requireOpen, .instanceMethod yX4_requireOpen, .selects RX4 yX4_requireOpen yX4_requireOpen, .code yX4_requireOpen cX4_requireOpen 2 none, .fieldLink RX4 40 "Queuefloat" "closed" "[Z"] ++ wsX40 ++ wsX30 ++ (vx_atS RX4 81 "java/lang/IllegalStateException" ["java/lang/RuntimeException", "java/lang/Exception"]).filter goodWord ++ (vx_atS RX4 144 "java/lang/IndexOutOfBoundsException" ["java/lang/RuntimeException", "java/lang/Exception"]).filter goodWord ++ (vx_atS RX4 201 "java/lang/IllegalArgumentException" ["java/lang/RuntimeException", "java/lang/Exception"]).filter goodWord)
def wsX4_setFloor : List Cond := .code yX4_setFloor cX4_setFloor 4 (some .int) :: ([.constant RX4 84 (-1000000), .fieldLink RX4 10 "Queuefloat" "sums" "LQueuefloat$Sums;", .fieldLink RX4 73 "Queuefloat$Sums" "accountOf" "[I", .methodLink RX4 85 Lib.Math.min.name, .static Lib.Math.min.name, .initialized "java/lang/Math", .code Lib.Math.min.name Lib.Math.min.code 2 (some .int), .fieldLink RX4 22 "Queuefloat" "limits" "LQueuefloat$Limits;", .fieldLink RX4 91 "Queuefloat$Limits" "floorOf" "[I", .methodLink RX4 61 yX4_requireBank, .static yX4_requireBank, .initialized RX4, .code yX4_requireBank cX4_requireBank 1 none, .classLink RX4 140 "java/lang/IndexOutOfBoundsException", .initialized "java/lang/IndexOutOfBoundsException", .methodLink RX4 66 yX4_requireRange, .static yX4_requireRange, .code yX4_requireRange cX4_requireRange 3 none, .classLink RX4 197 "java/lang/IllegalArgumentException", .initialized "java/lang/IllegalArgumentException"] ++ wsX40 ++ wsX30 ++ wsX00 ++ (vx_atS RX4 144 "java/lang/IndexOutOfBoundsException" ["java/lang/RuntimeException", "java/lang/Exception"]).filter goodWord ++ (vx_atS RX4 201 "java/lang/IllegalArgumentException" ["java/lang/RuntimeException", "java/lang/Exception"]).filter goodWord)
def wsX4_requireTwo : List Cond := .code yX4_requireTwo cX4_requireTwo 2 none :: ([.classLink RX4 197 "java/lang/IllegalArgumentException", .initialized "java/lang/IllegalArgumentException"] ++ (vx_atS RX4 201 "java/lang/IllegalArgumentException" ["java/lang/RuntimeException", "java/lang/Exception"]).filter goodWord)
def wsX4_setBound_r1 : List Cond := [Cond.fieldLink RX4 10 "Queuefloat" "sums" "LQueuefloat$Sums;", Cond.fieldLink RX4 101 "Queuefloat$Sums" "netPaid" "[I", Cond.methodLink RX4 104 Lib.Math.max.name, Cond.static Lib.Math.max.name, Cond.initialized "java/lang/Math", Cond.code Lib.Math.max.name Lib.Math.max.code 2 (some .int), Cond.constant RX4 65 (1000000), Cond.fieldLink RX4 22 "Queuefloat" "limits" "LQueuefloat$Limits;", Cond.fieldLink RX4 107 "Queuefloat$Limits" "boundOf" "[I", Cond.methodLink RX4 61 yX4_requireBank, Cond.static yX4_requireBank, Cond.initialized RX4, Cond.code yX4_requireBank cX4_requireBank 1 none, Cond.classLink RX4 140 "java/lang/IndexOutOfBoundsException", Cond.initialized "java/lang/IndexOutOfBoundsException", Cond.methodLink RX4 94 yX4_requireTwo, Cond.static yX4_requireTwo, Cond.code yX4_requireTwo cX4_requireTwo 2 none, Cond.classLink RX4 197 "java/lang/IllegalArgumentException", Cond.initialized "java/lang/IllegalArgumentException", Cond.methodLink RX4 98 yX4_pairOf, Cond.static yX4_pairOf, Cond.code yX4_pairOf cX4_pairOf 2 (some .int), Cond.methodLink RX4 66 yX4_requireRange]
def wsX4_setBound_r2 : List Cond := [Cond.static yX4_requireRange, Cond.code yX4_requireRange cX4_requireRange 3 none]
def wsX4_setBound : List Cond := .code yX4_setBound cX4_setBound 6 (some .int) :: ((wsX4_setBound_r1 ++ wsX4_setBound_r2) ++ wsX40 ++ wsX30 ++ wsX00 ++ (vx_atS RX4 144 "java/lang/IndexOutOfBoundsException" ["java/lang/RuntimeException", "java/lang/Exception"]).filter goodWord ++ (vx_atS RX4 201 "java/lang/IllegalArgumentException" ["java/lang/RuntimeException", "java/lang/Exception"]).filter goodWord)
def wsX4_givePapers : List Cond := .code yX4_givePapers cX4_givePapers 3 (some .int) :: ([.classLink RX4 77 "java/lang/IllegalStateException", .initialized "java/lang/IllegalStateException", .fieldLink RX4 44 "Queuefloat" "papersOf" "[I", .constant RX4 110 (100000), .methodLink RX4 61 yX4_requireBank, .static yX4_requireBank, .initialized RX4, .code yX4_requireBank cX4_requireBank 1 none, .classLink RX4 140 "java/lang/IndexOutOfBoundsException", .initialized "java/lang/IndexOutOfBoundsException", .methodLink RX4 66 yX4_requireRange, .static yX4_requireRange, .code yX4_requireRange cX4_requireRange 3 none, .classLink RX4 197 "java/lang/IllegalArgumentException", .initialized "java/lang/IllegalArgumentException", .methodLink RX4 70 yX4_requireOpen, .instanceMethod yX4_requireOpen, .selects RX4 yX4_requireOpen yX4_requireOpen, .code yX4_requireOpen cX4_requireOpen 2 none, .fieldLink RX4 40 "Queuefloat" "closed" "[Z"] ++ wsX40 ++ (vx_atS RX4 81 "java/lang/IllegalStateException" ["java/lang/RuntimeException", "java/lang/Exception"]).filter goodWord ++ (vx_atS RX4 144 "java/lang/IndexOutOfBoundsException" ["java/lang/RuntimeException", "java/lang/Exception"]).filter goodWord ++ (vx_atS RX4 201 "java/lang/IllegalArgumentException" ["java/lang/RuntimeException", "java/lang/Exception"]).filter goodWord)
def wsX4_account : List Cond := .code yX4_account cX4_account 2 (some .int) :: ([.fieldLink RX4 10 "Queuefloat" "sums" "LQueuefloat$Sums;", .fieldLink RX4 73 "Queuefloat$Sums" "accountOf" "[I", .methodLink RX4 61 yX4_requireBank, .static yX4_requireBank, .initialized RX4, .code yX4_requireBank cX4_requireBank 1 none, .classLink RX4 140 "java/lang/IndexOutOfBoundsException", .initialized "java/lang/IndexOutOfBoundsException"] ++ wsX40 ++ wsX30 ++ (vx_atS RX4 144 "java/lang/IndexOutOfBoundsException" ["java/lang/RuntimeException", "java/lang/Exception"]).filter goodWord)
def wsX4_papers : List Cond := .code yX4_papers cX4_papers 2 (some .int) :: ([.fieldLink RX4 44 "Queuefloat" "papersOf" "[I", .methodLink RX4 61 yX4_requireBank, .static yX4_requireBank, .initialized RX4, .code yX4_requireBank cX4_requireBank 1 none, .classLink RX4 140 "java/lang/IndexOutOfBoundsException", .initialized "java/lang/IndexOutOfBoundsException"] ++ wsX40 ++ (vx_atS RX4 144 "java/lang/IndexOutOfBoundsException" ["java/lang/RuntimeException", "java/lang/Exception"]).filter goodWord)
def wsX4_isOpen : List Cond := .code yX4_isOpen cX4_isOpen 2 (some .boolean) :: ([.fieldLink RX4 40 "Queuefloat" "closed" "[Z", .methodLink RX4 61 yX4_requireBank, .static yX4_requireBank, .initialized RX4, .code yX4_requireBank cX4_requireBank 1 none, .classLink RX4 140 "java/lang/IndexOutOfBoundsException", .initialized "java/lang/IndexOutOfBoundsException"] ++ wsX40 ++ (vx_atS RX4 144 "java/lang/IndexOutOfBoundsException" ["java/lang/RuntimeException", "java/lang/Exception"]).filter goodWord)
def wsX4_paid : List Cond := .code yX4_paid cX4_paid 3 (some .int) :: ([.fieldLink RX4 10 "Queuefloat" "sums" "LQueuefloat$Sums;", .fieldLink RX4 101 "Queuefloat$Sums" "netPaid" "[I", .methodLink RX4 61 yX4_requireBank, .static yX4_requireBank, .initialized RX4, .code yX4_requireBank cX4_requireBank 1 none, .classLink RX4 140 "java/lang/IndexOutOfBoundsException", .initialized "java/lang/IndexOutOfBoundsException", .methodLink RX4 98 yX4_pairOf, .static yX4_pairOf, .code yX4_pairOf cX4_pairOf 2 (some .int)] ++ wsX40 ++ wsX30 ++ (vx_atS RX4 144 "java/lang/IndexOutOfBoundsException" ["java/lang/RuntimeException", "java/lang/Exception"]).filter goodWord)
def wsX4_pay_r1 : List Cond := [Cond.classLink RX4 77 "java/lang/IllegalStateException", Cond.initialized "java/lang/IllegalStateException", Cond.constant RX4 110 (100000), Cond.fieldLink RX4 29 "Queuefloat" "payments" "LQueuefloat$Payments;", Cond.fieldLink RX4 113 "Queuefloat$Payments" "made" "I", Cond.methodLink RX4 61 yX4_requireBank, Cond.static yX4_requireBank, Cond.initialized RX4, Cond.code yX4_requireBank cX4_requireBank 1 none, Cond.classLink RX4 140 "java/lang/IndexOutOfBoundsException", Cond.initialized "java/lang/IndexOutOfBoundsException", Cond.methodLink RX4 94 yX4_requireTwo, Cond.static yX4_requireTwo, Cond.code yX4_requireTwo cX4_requireTwo 2 none, Cond.classLink RX4 197 "java/lang/IllegalArgumentException", Cond.initialized "java/lang/IllegalArgumentException", Cond.methodLink RX4 66 yX4_requireRange, Cond.static yX4_requireRange, Cond.code yX4_requireRange cX4_requireRange 3 none, Cond.methodLink RX4 70 yX4_requireOpen, Cond.instanceMethod yX4_requireOpen, Cond.selects RX4 yX4_requireOpen yX4_requireOpen, Cond.code yX4_requireOpen cX4_requireOpen 2 none, Cond.fieldLink RX4 40 "Queuefloat" "closed" "[Z"]
def wsX4_pay_r2 : List Cond := [Cond.methodLink RX4 118 yX2_enter, Cond.instanceMethod yX2_enter, Cond.selects RX2 yX2_enter yX2_enter, Cond.initialized RX2, Cond.code yX2_enter cX2_enter 7 (some .int), Cond.fieldLink RX2 31 "Queuefloat$Payments" "made" "I", Cond.fieldLink RX2 9 "Queuefloat$Payments" "from" "[I", Cond.fieldLink RX2 15 "Queuefloat$Payments" "to" "[I", Cond.fieldLink RX2 18 "Queuefloat$Payments" "amount" "[I", Cond.fieldLink RX2 21 "Queuefloat$Payments" "priorityOf" "[I", Cond.fieldLink RX2 24 "Queuefloat$Payments" "waits" "[Z", Cond.fieldLink RX2 28 "Queuefloat$Payments" "byPriority" "[I"]
def wsX4_pay : List Cond := .code yX4_pay cX4_pay 5 (some .int) :: ((wsX4_pay_r1 ++ wsX4_pay_r2) ++ wsX40 ++ wsX20 ++ (vx_atS RX4 81 "java/lang/IllegalStateException" ["java/lang/RuntimeException", "java/lang/Exception"]).filter goodWord ++ (vx_atS RX4 144 "java/lang/IndexOutOfBoundsException" ["java/lang/RuntimeException", "java/lang/Exception"]).filter goodWord ++ (vx_atS RX4 201 "java/lang/IllegalArgumentException" ["java/lang/RuntimeException", "java/lang/Exception"]).filter goodWord)
def wsX4_requirePayment : List Cond := .code yX4_requirePayment cX4_requirePayment 2 none :: ([.classLink RX4 140 "java/lang/IndexOutOfBoundsException", .initialized "java/lang/IndexOutOfBoundsException", .fieldLink RX4 29 "Queuefloat" "payments" "LQueuefloat$Payments;", .fieldLink RX4 113 "Queuefloat$Payments" "made" "I"] ++ wsX40 ++ wsX20 ++ (vx_atS RX4 144 "java/lang/IndexOutOfBoundsException" ["java/lang/RuntimeException", "java/lang/Exception"]).filter goodWord)
def wsX4_drop : List Cond := .code yX4_drop cX4_drop 2 (some .int) :: ([.classLink RX4 77 "java/lang/IllegalStateException", .initialized "java/lang/IllegalStateException", .fieldLink RX4 29 "Queuefloat" "payments" "LQueuefloat$Payments;", .fieldLink RX4 125 "Queuefloat$Payments" "waits" "[Z", .methodLink RX4 122 yX4_requirePayment, .instanceMethod yX4_requirePayment, .selects RX4 yX4_requirePayment yX4_requirePayment, .initialized RX4, .code yX4_requirePayment cX4_requirePayment 2 none, .classLink RX4 140 "java/lang/IndexOutOfBoundsException", .initialized "java/lang/IndexOutOfBoundsException", .fieldLink RX4 113 "Queuefloat$Payments" "made" "I", .methodLink RX4 130 yX2_countWaiting, .instanceMethod yX2_countWaiting, .selects RX2 yX2_countWaiting yX2_countWaiting, .initialized RX2, .code yX2_countWaiting cX2_countWaiting 3 (some .int), .fieldLink RX2 31 "Queuefloat$Payments" "made" "I", .fieldLink RX2 24 "Queuefloat$Payments" "waits" "[Z"] ++ wsX40 ++ wsX20 ++ (vx_atS RX4 81 "java/lang/IllegalStateException" ["java/lang/RuntimeException", "java/lang/Exception"]).filter goodWord ++ (vx_atS RX4 144 "java/lang/IndexOutOfBoundsException" ["java/lang/RuntimeException", "java/lang/Exception"]).filter goodWord)
def wsX4_setSmall : List Cond := .code yX4_setSmall cX4_setSmall 3 (some .int) :: ([.constant RX4 110 (100000), .fieldLink RX4 51 "Queuefloat" "small" "I", .methodLink RX4 66 yX4_requireRange, .static yX4_requireRange, .initialized RX4, .code yX4_requireRange cX4_requireRange 3 none, .classLink RX4 197 "java/lang/IllegalArgumentException", .initialized "java/lang/IllegalArgumentException"] ++ wsX40 ++ (vx_atS RX4 201 "java/lang/IllegalArgumentException" ["java/lang/RuntimeException", "java/lang/Exception"]).filter goodWord)
def wsX4_obstacle : List Cond := .code yX4_obstacle cX4_obstacle 5 (some .int) :: ([.fieldLink RX4 29 "Queuefloat" "payments" "LQueuefloat$Payments;", .fieldLink RX4 125 "Queuefloat$Payments" "waits" "[Z", .fieldLink RX4 217 "Queuefloat$Payments" "from" "[I", .fieldLink RX4 220 "Queuefloat$Payments" "amount" "[I", .fieldLink RX4 10 "Queuefloat" "sums" "LQueuefloat$Sums;", .fieldLink RX4 73 "Queuefloat$Sums" "accountOf" "[I", .fieldLink RX4 22 "Queuefloat" "limits" "LQueuefloat$Limits;", .fieldLink RX4 91 "Queuefloat$Limits" "floorOf" "[I", .fieldLink RX4 223 "Queuefloat$Payments" "to" "[I", .fieldLink RX4 101 "Queuefloat$Sums" "netPaid" "[I", .fieldLink RX4 107 "Queuefloat$Limits" "boundOf" "[I", .methodLink RX4 98 yX4_pairOf, .static yX4_pairOf, .initialized RX4, .code yX4_pairOf cX4_pairOf 2 (some .int)] ++ wsX40 ++ wsX20 ++ wsX30 ++ wsX00)
def wsX4_firstSmallFree_r1 : List Cond := [Cond.fieldLink RX4 29 "Queuefloat" "payments" "LQueuefloat$Payments;", Cond.fieldLink RX4 113 "Queuefloat$Payments" "made" "I", Cond.fieldLink RX4 239 "Queuefloat$Payments" "byPriority" "[I", Cond.fieldLink RX4 220 "Queuefloat$Payments" "amount" "[I", Cond.fieldLink RX4 51 "Queuefloat" "small" "I", Cond.methodLink RX4 242 yX2_waitsAt, Cond.instanceMethod yX2_waitsAt, Cond.selects RX2 yX2_waitsAt yX2_waitsAt, Cond.initialized RX2, Cond.code yX2_waitsAt cX2_waitsAt 3 (some .boolean), Cond.fieldLink RX2 24 "Queuefloat$Payments" "waits" "[Z", Cond.fieldLink RX2 9 "Queuefloat$Payments" "from" "[I", Cond.methodLink RX4 148 yX4_obstacle, Cond.instanceMethod yX4_obstacle, Cond.selects RX4 yX4_obstacle yX4_obstacle, Cond.initialized RX4, Cond.code yX4_obstacle cX4_obstacle 5 (some .int), Cond.fieldLink RX4 125 "Queuefloat$Payments" "waits" "[Z", Cond.fieldLink RX4 217 "Queuefloat$Payments" "from" "[I", Cond.fieldLink RX4 10 "Queuefloat" "sums" "LQueuefloat$Sums;", Cond.fieldLink RX4 73 "Queuefloat$Sums" "accountOf" "[I", Cond.fieldLink RX4 22 "Queuefloat" "limits" "LQueuefloat$Limits;", Cond.fieldLink RX4 91 "Queuefloat$Limits" "floorOf" "[I", Cond.fieldLink RX4 223 "Queuefloat$Payments" "to" "[I"]
def wsX4_firstSmallFree_r2 : List Cond := [Cond.fieldLink RX4 101 "Queuefloat$Sums" "netPaid" "[I", Cond.fieldLink RX4 107 "Queuefloat$Limits" "boundOf" "[I", Cond.methodLink RX4 98 yX4_pairOf, Cond.static yX4_pairOf, Cond.code yX4_pairOf cX4_pairOf 2 (some .int)]
def wsX4_firstSmallFree : List Cond := .code yX4_firstSmallFree cX4_firstSmallFree 4 (some .int) :: ((wsX4_firstSmallFree_r1 ++ wsX4_firstSmallFree_r2) ++ wsX40 ++ wsX20 ++ wsX30 ++ wsX00)
def wsX4_nextToGo_r1 : List Cond := [Cond.fieldLink RX4 29 "Queuefloat" "payments" "LQueuefloat$Payments;", Cond.methodLink RX4 145 yX2_inQueue, Cond.instanceMethod yX2_inQueue, Cond.selects RX2 yX2_inQueue yX2_inQueue, Cond.initialized RX2, Cond.code yX2_inQueue cX2_inQueue 5 (some .int), Cond.fieldLink RX2 31 "Queuefloat$Payments" "made" "I", Cond.fieldLink RX2 28 "Queuefloat$Payments" "byPriority" "[I", Cond.methodLink RX2 44 yX2_waitsAt, Cond.instanceMethod yX2_waitsAt, Cond.selects RX2 yX2_waitsAt yX2_waitsAt, Cond.code yX2_waitsAt cX2_waitsAt 3 (some .boolean), Cond.fieldLink RX2 24 "Queuefloat$Payments" "waits" "[Z", Cond.fieldLink RX2 9 "Queuefloat$Payments" "from" "[I", Cond.methodLink RX4 148 yX4_obstacle, Cond.instanceMethod yX4_obstacle, Cond.selects RX4 yX4_obstacle yX4_obstacle, Cond.initialized RX4, Cond.code yX4_obstacle cX4_obstacle 5 (some .int), Cond.fieldLink RX4 125 "Queuefloat$Payments" "waits" "[Z", Cond.fieldLink RX4 217 "Queuefloat$Payments" "from" "[I", Cond.fieldLink RX4 220 "Queuefloat$Payments" "amount" "[I", Cond.fieldLink RX4 10 "Queuefloat" "sums" "LQueuefloat$Sums;", Cond.fieldLink RX4 73 "Queuefloat$Sums" "accountOf" "[I"]
def wsX4_nextToGo_r2 : List Cond := [Cond.fieldLink RX4 22 "Queuefloat" "limits" "LQueuefloat$Limits;", Cond.fieldLink RX4 91 "Queuefloat$Limits" "floorOf" "[I", Cond.fieldLink RX4 223 "Queuefloat$Payments" "to" "[I", Cond.fieldLink RX4 101 "Queuefloat$Sums" "netPaid" "[I", Cond.fieldLink RX4 107 "Queuefloat$Limits" "boundOf" "[I", Cond.methodLink RX4 98 yX4_pairOf, Cond.static yX4_pairOf, Cond.code yX4_pairOf cX4_pairOf 2 (some .int), Cond.methodLink RX4 236 yX4_firstSmallFree, Cond.instanceMethod yX4_firstSmallFree, Cond.selects RX4 yX4_firstSmallFree yX4_firstSmallFree, Cond.code yX4_firstSmallFree cX4_firstSmallFree 4 (some .int), Cond.fieldLink RX4 113 "Queuefloat$Payments" "made" "I", Cond.fieldLink RX4 239 "Queuefloat$Payments" "byPriority" "[I", Cond.fieldLink RX4 51 "Queuefloat" "small" "I", Cond.methodLink RX4 242 yX2_waitsAt]
def wsX4_nextToGo : List Cond := .code yX4_nextToGo cX4_nextToGo 3 (some .int) :: ((wsX4_nextToGo_r1 ++ wsX4_nextToGo_r2) ++ wsX40 ++ wsX20 ++ wsX30 ++ wsX00)
def wsX4_send_r1 : List Cond := [Cond.fieldLink RX4 29 "Queuefloat" "payments" "LQueuefloat$Payments;", Cond.fieldLink RX4 10 "Queuefloat" "sums" "LQueuefloat$Sums;", Cond.fieldLink RX4 125 "Queuefloat$Payments" "waits" "[Z", Cond.methodLink RX4 226 yX2_apply, Cond.instanceMethod yX2_apply, Cond.selects RX2 yX2_apply yX2_apply, Cond.initialized RX2, Cond.code yX2_apply cX2_apply 3 none, Cond.fieldLink RX2 9 "Queuefloat$Payments" "from" "[I", Cond.fieldLink RX2 15 "Queuefloat$Payments" "to" "[I", Cond.fieldLink RX2 18 "Queuefloat$Payments" "amount" "[I", Cond.methodLink RX2 35 yX3_move, Cond.instanceMethod yX3_move, Cond.selects RX3 yX3_move yX3_move, Cond.initialized RX3, Cond.code yX3_move cX3_move 4 none, Cond.fieldLink RX3 9 "Queuefloat$Sums" "accountOf" "[I", Cond.methodLink RX2 41 yX3_notePaid, Cond.instanceMethod yX3_notePaid, Cond.selects RX3 yX3_notePaid yX3_notePaid, Cond.code yX3_notePaid cX3_notePaid 4 none, Cond.fieldLink RX3 15 "Queuefloat$Sums" "netPaid" "[I", Cond.static yX4_pairOf, Cond.initialized RX4]
def wsX4_send_r2 : List Cond := [Cond.code yX4_pairOf cX4_pairOf 2 (some .int)]
def wsX4_send : List Cond := .code yX4_send cX4_send 2 none :: ((wsX4_send_r1 ++ wsX4_send_r2) ++ wsX40 ++ wsX20 ++ wsX30)
def wsX4_goThroughBanks_r1 : List Cond := [Cond.methodLink RX4 230 yX4_nextToGo, Cond.instanceMethod yX4_nextToGo, Cond.selects RX4 yX4_nextToGo yX4_nextToGo, Cond.initialized RX4, Cond.code yX4_nextToGo cX4_nextToGo 3 (some .int), Cond.fieldLink RX4 29 "Queuefloat" "payments" "LQueuefloat$Payments;", Cond.methodLink RX4 145 yX2_inQueue, Cond.instanceMethod yX2_inQueue, Cond.selects RX2 yX2_inQueue yX2_inQueue, Cond.initialized RX2, Cond.code yX2_inQueue cX2_inQueue 5 (some .int), Cond.fieldLink RX2 31 "Queuefloat$Payments" "made" "I", Cond.fieldLink RX2 28 "Queuefloat$Payments" "byPriority" "[I", Cond.methodLink RX2 44 yX2_waitsAt, Cond.instanceMethod yX2_waitsAt, Cond.selects RX2 yX2_waitsAt yX2_waitsAt, Cond.code yX2_waitsAt cX2_waitsAt 3 (some .boolean), Cond.fieldLink RX2 24 "Queuefloat$Payments" "waits" "[Z", Cond.fieldLink RX2 9 "Queuefloat$Payments" "from" "[I", Cond.methodLink RX4 148 yX4_obstacle, Cond.instanceMethod yX4_obstacle, Cond.selects RX4 yX4_obstacle yX4_obstacle, Cond.code yX4_obstacle cX4_obstacle 5 (some .int), Cond.fieldLink RX4 125 "Queuefloat$Payments" "waits" "[Z"]
def wsX4_goThroughBanks_r2 : List Cond := [Cond.fieldLink RX4 217 "Queuefloat$Payments" "from" "[I", Cond.fieldLink RX4 220 "Queuefloat$Payments" "amount" "[I", Cond.fieldLink RX4 10 "Queuefloat" "sums" "LQueuefloat$Sums;", Cond.fieldLink RX4 73 "Queuefloat$Sums" "accountOf" "[I", Cond.fieldLink RX4 22 "Queuefloat" "limits" "LQueuefloat$Limits;", Cond.fieldLink RX4 91 "Queuefloat$Limits" "floorOf" "[I", Cond.fieldLink RX4 223 "Queuefloat$Payments" "to" "[I", Cond.fieldLink RX4 101 "Queuefloat$Sums" "netPaid" "[I", Cond.fieldLink RX4 107 "Queuefloat$Limits" "boundOf" "[I", Cond.methodLink RX4 98 yX4_pairOf, Cond.static yX4_pairOf, Cond.code yX4_pairOf cX4_pairOf 2 (some .int), Cond.methodLink RX4 236 yX4_firstSmallFree, Cond.instanceMethod yX4_firstSmallFree, Cond.selects RX4 yX4_firstSmallFree yX4_firstSmallFree, Cond.code yX4_firstSmallFree cX4_firstSmallFree 4 (some .int), Cond.fieldLink RX4 113 "Queuefloat$Payments" "made" "I", Cond.fieldLink RX4 239 "Queuefloat$Payments" "byPriority" "[I", Cond.fieldLink RX4 51 "Queuefloat" "small" "I", Cond.methodLink RX4 242 yX2_waitsAt, Cond.methodLink RX4 233 yX4_send, Cond.instanceMethod yX4_send, Cond.selects RX4 yX4_send yX4_send, Cond.code yX4_send cX4_send 2 none]
def wsX4_goThroughBanks_r3 : List Cond := [Cond.methodLink RX4 226 yX2_apply, Cond.instanceMethod yX2_apply, Cond.selects RX2 yX2_apply yX2_apply, Cond.code yX2_apply cX2_apply 3 none, Cond.fieldLink RX2 15 "Queuefloat$Payments" "to" "[I", Cond.fieldLink RX2 18 "Queuefloat$Payments" "amount" "[I", Cond.methodLink RX2 35 yX3_move, Cond.instanceMethod yX3_move, Cond.selects RX3 yX3_move yX3_move, Cond.initialized RX3, Cond.code yX3_move cX3_move 4 none, Cond.fieldLink RX3 9 "Queuefloat$Sums" "accountOf" "[I", Cond.methodLink RX2 41 yX3_notePaid, Cond.instanceMethod yX3_notePaid, Cond.selects RX3 yX3_notePaid yX3_notePaid, Cond.code yX3_notePaid cX3_notePaid 4 none, Cond.fieldLink RX3 15 "Queuefloat$Sums" "netPaid" "[I"]
def wsX4_goThroughBanks : List Cond := .code yX4_goThroughBanks cX4_goThroughBanks 4 (some .int) :: ((wsX4_goThroughBanks_r1 ++ (wsX4_goThroughBanks_r2 ++ wsX4_goThroughBanks_r3)) ++ wsX40 ++ wsX20 ++ wsX30 ++ wsX00)
def wsJ6_bitCount_0f7a4 : List Cond := .code yJ6_bitCount_0f7a4 cJ6_bitCount_0f7a4 1 (some .int) :: ([.constant RJ6 265 (1431655765), .constant RJ6 266 (858993459), .constant RJ6 267 (252645135)])
def wsX4_isIn : List Cond := .code yX4_isIn cX4_isIn 2 (some .boolean) :: ([])
def wsX4_canGoTogether_r1 : List Cond := [Cond.fieldLink RX4 16 "Queuefloat" "trial" "LQueuefloat$Sums;", Cond.fieldLink RX4 10 "Queuefloat" "sums" "LQueuefloat$Sums;", Cond.fieldLink RX4 48 "Queuefloat" "candidates" "[I", Cond.fieldLink RX4 29 "Queuefloat" "payments" "LQueuefloat$Payments;", Cond.fieldLink RX4 22 "Queuefloat" "limits" "LQueuefloat$Limits;", Cond.methodLink RX4 253 yX3_copy, Cond.instanceMethod yX3_copy, Cond.selects RX3 yX3_copy yX3_copy, Cond.initialized RX3, Cond.code yX3_copy cX3_copy 2 none, Cond.fieldLink RX3 9 "Queuefloat$Sums" "accountOf" "[I", Cond.methodLink RX3 22 arraycopyName, Cond.native arraycopyName, Cond.static arraycopyName, Cond.initialized "java/lang/System", Cond.fieldLink RX3 15 "Queuefloat$Sums" "netPaid" "[I", Cond.methodLink RX4 250 yX4_isIn, Cond.static yX4_isIn, Cond.initialized RX4, Cond.code yX4_isIn cX4_isIn 2 (some .boolean), Cond.methodLink RX4 226 yX2_apply, Cond.instanceMethod yX2_apply, Cond.selects RX2 yX2_apply yX2_apply, Cond.initialized RX2]
def wsX4_canGoTogether_r2 : List Cond := [Cond.code yX2_apply cX2_apply 3 none, Cond.fieldLink RX2 9 "Queuefloat$Payments" "from" "[I", Cond.fieldLink RX2 15 "Queuefloat$Payments" "to" "[I", Cond.fieldLink RX2 18 "Queuefloat$Payments" "amount" "[I", Cond.methodLink RX2 35 yX3_move, Cond.instanceMethod yX3_move, Cond.selects RX3 yX3_move yX3_move, Cond.code yX3_move cX3_move 4 none, Cond.methodLink RX2 41 yX3_notePaid, Cond.instanceMethod yX3_notePaid, Cond.selects RX3 yX3_notePaid yX3_notePaid, Cond.code yX3_notePaid cX3_notePaid 4 none, Cond.static yX4_pairOf, Cond.code yX4_pairOf cX4_pairOf 2 (some .int), Cond.methodLink RX4 257 yX0_allow, Cond.instanceMethod yX0_allow, Cond.selects RX0 yX0_allow yX0_allow, Cond.initialized RX0, Cond.code yX0_allow cX0_allow 3 (some .boolean), Cond.fieldLink RX0 19 "Queuefloat$Sums" "accountOf" "[I", Cond.fieldLink RX0 9 "Queuefloat$Limits" "floorOf" "[I", Cond.fieldLink RX0 24 "Queuefloat$Sums" "netPaid" "[I", Cond.fieldLink RX0 15 "Queuefloat$Limits" "boundOf" "[I"]
def wsX4_canGoTogether : List Cond := .code yX4_canGoTogether cX4_canGoTogether 4 (some .boolean) :: ((wsX4_canGoTogether_r1 ++ wsX4_canGoTogether_r2) ++ wsX40 ++ wsX30 ++ wsX20 ++ wsX00)
def wsX4_sendLargestSet_r1 : List Cond := [Cond.fieldLink RX4 48 "Queuefloat" "candidates" "[I", Cond.fieldLink RX4 29 "Queuefloat" "payments" "LQueuefloat$Payments;", Cond.methodLink RX4 145 yX2_inQueue, Cond.instanceMethod yX2_inQueue, Cond.selects RX2 yX2_inQueue yX2_inQueue, Cond.initialized RX2, Cond.code yX2_inQueue cX2_inQueue 5 (some .int), Cond.fieldLink RX2 31 "Queuefloat$Payments" "made" "I", Cond.fieldLink RX2 28 "Queuefloat$Payments" "byPriority" "[I", Cond.methodLink RX2 44 yX2_waitsAt, Cond.instanceMethod yX2_waitsAt, Cond.selects RX2 yX2_waitsAt yX2_waitsAt, Cond.code yX2_waitsAt cX2_waitsAt 3 (some .boolean), Cond.fieldLink RX2 24 "Queuefloat$Payments" "waits" "[Z", Cond.fieldLink RX2 9 "Queuefloat$Payments" "from" "[I", Cond.methodLink RX4 245 yJ6_bitCount_0f7a4, Cond.static yJ6_bitCount_0f7a4, Cond.initialized RJ6, Cond.code yJ6_bitCount_0f7a4 cJ6_bitCount_0f7a4 1 (some .int), Cond.constant RJ6 265 (1431655765), Cond.constant RJ6 266 (858993459), Cond.constant RJ6 267 (252645135), Cond.methodLink RX4 157 yX4_canGoTogether, Cond.instanceMethod yX4_canGoTogether]
def wsX4_sendLargestSet_r2 : List Cond := [Cond.selects RX4 yX4_canGoTogether yX4_canGoTogether, Cond.initialized RX4, Cond.code yX4_canGoTogether cX4_canGoTogether 4 (some .boolean), Cond.fieldLink RX4 16 "Queuefloat" "trial" "LQueuefloat$Sums;", Cond.fieldLink RX4 10 "Queuefloat" "sums" "LQueuefloat$Sums;", Cond.fieldLink RX4 22 "Queuefloat" "limits" "LQueuefloat$Limits;", Cond.methodLink RX4 253 yX3_copy, Cond.instanceMethod yX3_copy, Cond.selects RX3 yX3_copy yX3_copy, Cond.initialized RX3, Cond.code yX3_copy cX3_copy 2 none, Cond.fieldLink RX3 9 "Queuefloat$Sums" "accountOf" "[I", Cond.methodLink RX3 22 arraycopyName, Cond.native arraycopyName, Cond.static arraycopyName, Cond.initialized "java/lang/System", Cond.fieldLink RX3 15 "Queuefloat$Sums" "netPaid" "[I", Cond.methodLink RX4 250 yX4_isIn, Cond.static yX4_isIn, Cond.code yX4_isIn cX4_isIn 2 (some .boolean), Cond.methodLink RX4 226 yX2_apply, Cond.instanceMethod yX2_apply, Cond.selects RX2 yX2_apply yX2_apply, Cond.code yX2_apply cX2_apply 3 none]
def wsX4_sendLargestSet_r3 : List Cond := [Cond.fieldLink RX2 15 "Queuefloat$Payments" "to" "[I", Cond.fieldLink RX2 18 "Queuefloat$Payments" "amount" "[I", Cond.methodLink RX2 35 yX3_move, Cond.instanceMethod yX3_move, Cond.selects RX3 yX3_move yX3_move, Cond.code yX3_move cX3_move 4 none, Cond.methodLink RX2 41 yX3_notePaid, Cond.instanceMethod yX3_notePaid, Cond.selects RX3 yX3_notePaid yX3_notePaid, Cond.code yX3_notePaid cX3_notePaid 4 none, Cond.static yX4_pairOf, Cond.code yX4_pairOf cX4_pairOf 2 (some .int), Cond.methodLink RX4 257 yX0_allow, Cond.instanceMethod yX0_allow, Cond.selects RX0 yX0_allow yX0_allow, Cond.initialized RX0, Cond.code yX0_allow cX0_allow 3 (some .boolean), Cond.fieldLink RX0 19 "Queuefloat$Sums" "accountOf" "[I", Cond.fieldLink RX0 9 "Queuefloat$Limits" "floorOf" "[I", Cond.fieldLink RX0 24 "Queuefloat$Sums" "netPaid" "[I", Cond.fieldLink RX0 15 "Queuefloat$Limits" "boundOf" "[I", Cond.methodLink RX4 233 yX4_send, Cond.instanceMethod yX4_send, Cond.selects RX4 yX4_send yX4_send]
def wsX4_sendLargestSet_r4 : List Cond := [Cond.code yX4_send cX4_send 2 none, Cond.fieldLink RX4 125 "Queuefloat$Payments" "waits" "[Z"]
def wsX4_sendLargestSet : List Cond := .code yX4_sendLargestSet cX4_sendLargestSet 3 (some .int) :: ((wsX4_sendLargestSet_r1 ++ (wsX4_sendLargestSet_r2 ++ (wsX4_sendLargestSet_r3 ++ wsX4_sendLargestSet_r4))) ++ wsX40 ++ wsX20 ++ wsX30 ++ wsX00)
def wsX4_run_r1 : List Cond := [Cond.methodLink RX4 134 yX4_goThroughBanks, Cond.instanceMethod yX4_goThroughBanks, Cond.selects RX4 yX4_goThroughBanks yX4_goThroughBanks, Cond.initialized RX4, Cond.code yX4_goThroughBanks cX4_goThroughBanks 4 (some .int), Cond.methodLink RX4 230 yX4_nextToGo, Cond.instanceMethod yX4_nextToGo, Cond.selects RX4 yX4_nextToGo yX4_nextToGo, Cond.code yX4_nextToGo cX4_nextToGo 3 (some .int), Cond.fieldLink RX4 29 "Queuefloat" "payments" "LQueuefloat$Payments;", Cond.methodLink RX4 145 yX2_inQueue, Cond.instanceMethod yX2_inQueue, Cond.selects RX2 yX2_inQueue yX2_inQueue, Cond.initialized RX2, Cond.code yX2_inQueue cX2_inQueue 5 (some .int), Cond.fieldLink RX2 31 "Queuefloat$Payments" "made" "I", Cond.fieldLink RX2 28 "Queuefloat$Payments" "byPriority" "[I", Cond.methodLink RX2 44 yX2_waitsAt, Cond.instanceMethod yX2_waitsAt, Cond.selects RX2 yX2_waitsAt yX2_waitsAt, Cond.code yX2_waitsAt cX2_waitsAt 3 (some .boolean), Cond.fieldLink RX2 24 "Queuefloat$Payments" "waits" "[Z", Cond.fieldLink RX2 9 "Queuefloat$Payments" "from" "[I", Cond.methodLink RX4 148 yX4_obstacle]
def wsX4_run_r2 : List Cond := [Cond.instanceMethod yX4_obstacle, Cond.selects RX4 yX4_obstacle yX4_obstacle, Cond.code yX4_obstacle cX4_obstacle 5 (some .int), Cond.fieldLink RX4 125 "Queuefloat$Payments" "waits" "[Z", Cond.fieldLink RX4 217 "Queuefloat$Payments" "from" "[I", Cond.fieldLink RX4 220 "Queuefloat$Payments" "amount" "[I", Cond.fieldLink RX4 10 "Queuefloat" "sums" "LQueuefloat$Sums;", Cond.fieldLink RX4 73 "Queuefloat$Sums" "accountOf" "[I", Cond.fieldLink RX4 22 "Queuefloat" "limits" "LQueuefloat$Limits;", Cond.fieldLink RX4 91 "Queuefloat$Limits" "floorOf" "[I", Cond.fieldLink RX4 223 "Queuefloat$Payments" "to" "[I", Cond.fieldLink RX4 101 "Queuefloat$Sums" "netPaid" "[I", Cond.fieldLink RX4 107 "Queuefloat$Limits" "boundOf" "[I", Cond.methodLink RX4 98 yX4_pairOf, Cond.static yX4_pairOf, Cond.code yX4_pairOf cX4_pairOf 2 (some .int), Cond.methodLink RX4 236 yX4_firstSmallFree, Cond.instanceMethod yX4_firstSmallFree, Cond.selects RX4 yX4_firstSmallFree yX4_firstSmallFree, Cond.code yX4_firstSmallFree cX4_firstSmallFree 4 (some .int), Cond.fieldLink RX4 113 "Queuefloat$Payments" "made" "I", Cond.fieldLink RX4 239 "Queuefloat$Payments" "byPriority" "[I", Cond.fieldLink RX4 51 "Queuefloat" "small" "I", Cond.methodLink RX4 242 yX2_waitsAt]
def wsX4_run_r3 : List Cond := [Cond.methodLink RX4 233 yX4_send, Cond.instanceMethod yX4_send, Cond.selects RX4 yX4_send yX4_send, Cond.code yX4_send cX4_send 2 none, Cond.methodLink RX4 226 yX2_apply, Cond.instanceMethod yX2_apply, Cond.selects RX2 yX2_apply yX2_apply, Cond.code yX2_apply cX2_apply 3 none, Cond.fieldLink RX2 15 "Queuefloat$Payments" "to" "[I", Cond.fieldLink RX2 18 "Queuefloat$Payments" "amount" "[I", Cond.methodLink RX2 35 yX3_move, Cond.instanceMethod yX3_move, Cond.selects RX3 yX3_move yX3_move, Cond.initialized RX3, Cond.code yX3_move cX3_move 4 none, Cond.fieldLink RX3 9 "Queuefloat$Sums" "accountOf" "[I", Cond.methodLink RX2 41 yX3_notePaid, Cond.instanceMethod yX3_notePaid, Cond.selects RX3 yX3_notePaid yX3_notePaid, Cond.code yX3_notePaid cX3_notePaid 4 none, Cond.fieldLink RX3 15 "Queuefloat$Sums" "netPaid" "[I", Cond.methodLink RX4 137 yX4_sendLargestSet, Cond.instanceMethod yX4_sendLargestSet, Cond.selects RX4 yX4_sendLargestSet yX4_sendLargestSet]
def wsX4_run_r4 : List Cond := [Cond.code yX4_sendLargestSet cX4_sendLargestSet 3 (some .int), Cond.fieldLink RX4 48 "Queuefloat" "candidates" "[I", Cond.methodLink RX4 245 yJ6_bitCount_0f7a4, Cond.static yJ6_bitCount_0f7a4, Cond.initialized RJ6, Cond.code yJ6_bitCount_0f7a4 cJ6_bitCount_0f7a4 1 (some .int), Cond.constant RJ6 265 (1431655765), Cond.constant RJ6 266 (858993459), Cond.constant RJ6 267 (252645135), Cond.methodLink RX4 157 yX4_canGoTogether, Cond.instanceMethod yX4_canGoTogether, Cond.selects RX4 yX4_canGoTogether yX4_canGoTogether, Cond.code yX4_canGoTogether cX4_canGoTogether 4 (some .boolean), Cond.fieldLink RX4 16 "Queuefloat" "trial" "LQueuefloat$Sums;", Cond.methodLink RX4 253 yX3_copy, Cond.instanceMethod yX3_copy, Cond.selects RX3 yX3_copy yX3_copy, Cond.code yX3_copy cX3_copy 2 none, Cond.methodLink RX3 22 arraycopyName, Cond.native arraycopyName, Cond.static arraycopyName, Cond.initialized "java/lang/System", Cond.methodLink RX4 250 yX4_isIn, Cond.static yX4_isIn]
def wsX4_run_r5 : List Cond := [Cond.code yX4_isIn cX4_isIn 2 (some .boolean), Cond.methodLink RX4 257 yX0_allow, Cond.instanceMethod yX0_allow, Cond.selects RX0 yX0_allow yX0_allow, Cond.initialized RX0, Cond.code yX0_allow cX0_allow 3 (some .boolean), Cond.fieldLink RX0 19 "Queuefloat$Sums" "accountOf" "[I", Cond.fieldLink RX0 9 "Queuefloat$Limits" "floorOf" "[I", Cond.fieldLink RX0 24 "Queuefloat$Sums" "netPaid" "[I", Cond.fieldLink RX0 15 "Queuefloat$Limits" "boundOf" "[I"]
def wsX4_run : List Cond := .code yX4_run cX4_run 4 (some .int) :: ((wsX4_run_r1 ++ (wsX4_run_r2 ++ (wsX4_run_r3 ++ (wsX4_run_r4 ++ wsX4_run_r5)))) ++ wsX40 ++ wsX20 ++ wsX30 ++ wsX00)
def wsX4_queued : List Cond := .code yX4_queued cX4_queued 3 (some .int) :: ([.classLink RX4 140 "java/lang/IndexOutOfBoundsException", .initialized "java/lang/IndexOutOfBoundsException", .fieldLink RX4 29 "Queuefloat" "payments" "LQueuefloat$Payments;", .methodLink RX4 61 yX4_requireBank, .static yX4_requireBank, .initialized RX4, .code yX4_requireBank cX4_requireBank 1 none, .methodLink RX4 145 yX2_inQueue, .instanceMethod yX2_inQueue, .selects RX2 yX2_inQueue yX2_inQueue, .initialized RX2, .code yX2_inQueue cX2_inQueue 5 (some .int), .fieldLink RX2 31 "Queuefloat$Payments" "made" "I", .fieldLink RX2 28 "Queuefloat$Payments" "byPriority" "[I", .methodLink RX2 44 yX2_waitsAt, .instanceMethod yX2_waitsAt, .selects RX2 yX2_waitsAt yX2_waitsAt, .code yX2_waitsAt cX2_waitsAt 3 (some .boolean), .fieldLink RX2 24 "Queuefloat$Payments" "waits" "[Z", .fieldLink RX2 9 "Queuefloat$Payments" "from" "[I"] ++ wsX40 ++ wsX20 ++ (vx_atS RX4 144 "java/lang/IndexOutOfBoundsException" ["java/lang/RuntimeException", "java/lang/Exception"]).filter goodWord)
def wsX4_why_r1 : List Cond := [Cond.methodLink RX4 122 yX4_requirePayment, Cond.instanceMethod yX4_requirePayment, Cond.selects RX4 yX4_requirePayment yX4_requirePayment, Cond.initialized RX4, Cond.code yX4_requirePayment cX4_requirePayment 2 none, Cond.classLink RX4 140 "java/lang/IndexOutOfBoundsException", Cond.initialized "java/lang/IndexOutOfBoundsException", Cond.fieldLink RX4 29 "Queuefloat" "payments" "LQueuefloat$Payments;", Cond.fieldLink RX4 113 "Queuefloat$Payments" "made" "I", Cond.methodLink RX4 148 yX4_obstacle, Cond.instanceMethod yX4_obstacle, Cond.selects RX4 yX4_obstacle yX4_obstacle, Cond.code yX4_obstacle cX4_obstacle 5 (some .int), Cond.fieldLink RX4 125 "Queuefloat$Payments" "waits" "[Z", Cond.fieldLink RX4 217 "Queuefloat$Payments" "from" "[I", Cond.fieldLink RX4 220 "Queuefloat$Payments" "amount" "[I", Cond.fieldLink RX4 10 "Queuefloat" "sums" "LQueuefloat$Sums;", Cond.fieldLink RX4 73 "Queuefloat$Sums" "accountOf" "[I", Cond.fieldLink RX4 22 "Queuefloat" "limits" "LQueuefloat$Limits;", Cond.fieldLink RX4 91 "Queuefloat$Limits" "floorOf" "[I", Cond.fieldLink RX4 223 "Queuefloat$Payments" "to" "[I", Cond.fieldLink RX4 101 "Queuefloat$Sums" "netPaid" "[I", Cond.fieldLink RX4 107 "Queuefloat$Limits" "boundOf" "[I", Cond.methodLink RX4 98 yX4_pairOf]
def wsX4_why_r2 : List Cond := [Cond.static yX4_pairOf, Cond.code yX4_pairOf cX4_pairOf 2 (some .int)]
def wsX4_why : List Cond := .code yX4_why cX4_why 2 (some .int) :: ((wsX4_why_r1 ++ wsX4_why_r2) ++ wsX40 ++ wsX20 ++ wsX30 ++ wsX00 ++ (vx_atS RX4 144 "java/lang/IndexOutOfBoundsException" ["java/lang/RuntimeException", "java/lang/Exception"]).filter goodWord)
def wsX4_listWaiting : List Cond := .code yX4_listWaiting cX4_listWaiting 3 (some .int) :: ([.fieldLink RX4 29 "Queuefloat" "payments" "LQueuefloat$Payments;", .fieldLink RX4 113 "Queuefloat$Payments" "made" "I", .fieldLink RX4 125 "Queuefloat$Payments" "waits" "[Z", .fieldLink RX4 48 "Queuefloat" "candidates" "[I"] ++ wsX40 ++ wsX20)
def wsX4_canAny_r1 : List Cond := [Cond.classLink RX4 77 "java/lang/IllegalStateException", Cond.initialized "java/lang/IllegalStateException", Cond.fieldLink RX4 29 "Queuefloat" "payments" "LQueuefloat$Payments;", Cond.methodLink RX4 130 yX2_countWaiting, Cond.instanceMethod yX2_countWaiting, Cond.selects RX2 yX2_countWaiting yX2_countWaiting, Cond.initialized RX2, Cond.code yX2_countWaiting cX2_countWaiting 3 (some .int), Cond.fieldLink RX2 31 "Queuefloat$Payments" "made" "I", Cond.fieldLink RX2 24 "Queuefloat$Payments" "waits" "[Z", Cond.methodLink RX4 154 yX4_listWaiting, Cond.instanceMethod yX4_listWaiting, Cond.selects RX4 yX4_listWaiting yX4_listWaiting, Cond.initialized RX4, Cond.code yX4_listWaiting cX4_listWaiting 3 (some .int), Cond.fieldLink RX4 113 "Queuefloat$Payments" "made" "I", Cond.fieldLink RX4 125 "Queuefloat$Payments" "waits" "[Z", Cond.fieldLink RX4 48 "Queuefloat" "candidates" "[I", Cond.methodLink RX4 157 yX4_canGoTogether, Cond.instanceMethod yX4_canGoTogether, Cond.selects RX4 yX4_canGoTogether yX4_canGoTogether, Cond.code yX4_canGoTogether cX4_canGoTogether 4 (some .boolean), Cond.fieldLink RX4 16 "Queuefloat" "trial" "LQueuefloat$Sums;", Cond.fieldLink RX4 10 "Queuefloat" "sums" "LQueuefloat$Sums;"]
def wsX4_canAny_r2 : List Cond := [Cond.fieldLink RX4 22 "Queuefloat" "limits" "LQueuefloat$Limits;", Cond.methodLink RX4 253 yX3_copy, Cond.instanceMethod yX3_copy, Cond.selects RX3 yX3_copy yX3_copy, Cond.initialized RX3, Cond.code yX3_copy cX3_copy 2 none, Cond.fieldLink RX3 9 "Queuefloat$Sums" "accountOf" "[I", Cond.methodLink RX3 22 arraycopyName, Cond.native arraycopyName, Cond.static arraycopyName, Cond.initialized "java/lang/System", Cond.fieldLink RX3 15 "Queuefloat$Sums" "netPaid" "[I", Cond.methodLink RX4 250 yX4_isIn, Cond.static yX4_isIn, Cond.code yX4_isIn cX4_isIn 2 (some .boolean), Cond.methodLink RX4 226 yX2_apply, Cond.instanceMethod yX2_apply, Cond.selects RX2 yX2_apply yX2_apply, Cond.code yX2_apply cX2_apply 3 none, Cond.fieldLink RX2 9 "Queuefloat$Payments" "from" "[I", Cond.fieldLink RX2 15 "Queuefloat$Payments" "to" "[I", Cond.fieldLink RX2 18 "Queuefloat$Payments" "amount" "[I", Cond.methodLink RX2 35 yX3_move, Cond.instanceMethod yX3_move]
def wsX4_canAny_r3 : List Cond := [Cond.selects RX3 yX3_move yX3_move, Cond.code yX3_move cX3_move 4 none, Cond.methodLink RX2 41 yX3_notePaid, Cond.instanceMethod yX3_notePaid, Cond.selects RX3 yX3_notePaid yX3_notePaid, Cond.code yX3_notePaid cX3_notePaid 4 none, Cond.static yX4_pairOf, Cond.code yX4_pairOf cX4_pairOf 2 (some .int), Cond.methodLink RX4 257 yX0_allow, Cond.instanceMethod yX0_allow, Cond.selects RX0 yX0_allow yX0_allow, Cond.initialized RX0, Cond.code yX0_allow cX0_allow 3 (some .boolean), Cond.fieldLink RX0 19 "Queuefloat$Sums" "accountOf" "[I", Cond.fieldLink RX0 9 "Queuefloat$Limits" "floorOf" "[I", Cond.fieldLink RX0 24 "Queuefloat$Sums" "netPaid" "[I", Cond.fieldLink RX0 15 "Queuefloat$Limits" "boundOf" "[I"]
def wsX4_canAny : List Cond := .code yX4_canAny cX4_canAny 3 (some .boolean) :: ((wsX4_canAny_r1 ++ (wsX4_canAny_r2 ++ wsX4_canAny_r3)) ++ wsX40 ++ wsX20 ++ wsX30 ++ wsX00 ++ (vx_atS RX4 81 "java/lang/IllegalStateException" ["java/lang/RuntimeException", "java/lang/Exception"]).filter goodWord)
def wsX4_setPrice : List Cond := .code yX4_setPrice cX4_setPrice 3 none :: ([.fieldLink RX4 55 "Queuefloat" "paperPrice" "I", .fieldLink RX4 58 "Queuefloat" "paperCut" "I", .methodLink RX4 66 yX4_requireRange, .static yX4_requireRange, .initialized RX4, .code yX4_requireRange cX4_requireRange 3 none, .classLink RX4 197 "java/lang/IllegalArgumentException", .initialized "java/lang/IllegalArgumentException"] ++ wsX40 ++ (vx_atS RX4 201 "java/lang/IllegalArgumentException" ["java/lang/RuntimeException", "java/lang/Exception"]).filter goodWord)
def wsX4_pledgeWorth : List Cond := .code yX4_pledgeWorth cX4_pledgeWorth 2 (some .int) :: ([.fieldLink RX4 55 "Queuefloat" "paperPrice" "I", .fieldLink RX4 58 "Queuefloat" "paperCut" "I"] ++ wsX40)
def wsX4_requireLoanable : List Cond := .code yX4_requireLoanable cX4_requireLoanable 5 none :: ([.classLink RX4 77 "java/lang/IllegalStateException", .initialized "java/lang/IllegalStateException", .fieldLink RX4 36 "Queuefloat" "market" "LQueuefloat$Loans;", .fieldLink RX4 169 "Queuefloat$Loans" "made" "I", .fieldLink RX4 44 "Queuefloat" "papersOf" "[I", .fieldLink RX4 10 "Queuefloat" "sums" "LQueuefloat$Sums;", .fieldLink RX4 73 "Queuefloat$Sums" "accountOf" "[I", .fieldLink RX4 22 "Queuefloat" "limits" "LQueuefloat$Limits;", .fieldLink RX4 91 "Queuefloat$Limits" "floorOf" "[I", .methodLink RX4 210 yX4_pledgeWorth, .instanceMethod yX4_pledgeWorth, .selects RX4 yX4_pledgeWorth yX4_pledgeWorth, .initialized RX4, .code yX4_pledgeWorth cX4_pledgeWorth 2 (some .int), .fieldLink RX4 55 "Queuefloat" "paperPrice" "I", .fieldLink RX4 58 "Queuefloat" "paperCut" "I"] ++ wsX40 ++ wsX10 ++ wsX30 ++ wsX00 ++ (vx_atS RX4 81 "java/lang/IllegalStateException" ["java/lang/RuntimeException", "java/lang/Exception"]).filter goodWord)
def wsX4_lend_r1 : List Cond := [Cond.constant RX4 110 (100000), Cond.fieldLink RX4 10 "Queuefloat" "sums" "LQueuefloat$Sums;", Cond.fieldLink RX4 44 "Queuefloat" "papersOf" "[I", Cond.fieldLink RX4 36 "Queuefloat" "market" "LQueuefloat$Loans;", Cond.methodLink RX4 61 yX4_requireBank, Cond.static yX4_requireBank, Cond.initialized RX4, Cond.code yX4_requireBank cX4_requireBank 1 none, Cond.classLink RX4 140 "java/lang/IndexOutOfBoundsException", Cond.initialized "java/lang/IndexOutOfBoundsException", Cond.methodLink RX4 94 yX4_requireTwo, Cond.static yX4_requireTwo, Cond.code yX4_requireTwo cX4_requireTwo 2 none, Cond.classLink RX4 197 "java/lang/IllegalArgumentException", Cond.initialized "java/lang/IllegalArgumentException", Cond.methodLink RX4 66 yX4_requireRange, Cond.static yX4_requireRange, Cond.code yX4_requireRange cX4_requireRange 3 none, Cond.methodLink RX4 70 yX4_requireOpen, Cond.instanceMethod yX4_requireOpen, Cond.selects RX4 yX4_requireOpen yX4_requireOpen, Cond.code yX4_requireOpen cX4_requireOpen 2 none, Cond.classLink RX4 77 "java/lang/IllegalStateException", Cond.initialized "java/lang/IllegalStateException"]
def wsX4_lend_r2 : List Cond := [Cond.fieldLink RX4 40 "Queuefloat" "closed" "[Z", Cond.methodLink RX4 161 yX4_requireLoanable, Cond.instanceMethod yX4_requireLoanable, Cond.selects RX4 yX4_requireLoanable yX4_requireLoanable, Cond.code yX4_requireLoanable cX4_requireLoanable 5 none, Cond.fieldLink RX4 169 "Queuefloat$Loans" "made" "I", Cond.fieldLink RX4 73 "Queuefloat$Sums" "accountOf" "[I", Cond.fieldLink RX4 22 "Queuefloat" "limits" "LQueuefloat$Limits;", Cond.fieldLink RX4 91 "Queuefloat$Limits" "floorOf" "[I", Cond.methodLink RX4 210 yX4_pledgeWorth, Cond.instanceMethod yX4_pledgeWorth, Cond.selects RX4 yX4_pledgeWorth yX4_pledgeWorth, Cond.code yX4_pledgeWorth cX4_pledgeWorth 2 (some .int), Cond.fieldLink RX4 55 "Queuefloat" "paperPrice" "I", Cond.fieldLink RX4 58 "Queuefloat" "paperCut" "I", Cond.methodLink RX4 165 yX3_move, Cond.instanceMethod yX3_move, Cond.selects RX3 yX3_move yX3_move, Cond.initialized RX3, Cond.code yX3_move cX3_move 4 none, Cond.fieldLink RX3 9 "Queuefloat$Sums" "accountOf" "[I", Cond.methodLink RX4 168 yX1_enter, Cond.instanceMethod yX1_enter, Cond.selects RX1 yX1_enter yX1_enter]
def wsX4_lend_r3 : List Cond := [Cond.initialized RX1, Cond.code yX1_enter cX1_enter 6 (some .int), Cond.fieldLink RX1 24 "Queuefloat$Loans" "made" "I", Cond.fieldLink RX1 9 "Queuefloat$Loans" "lender" "[I", Cond.fieldLink RX1 15 "Queuefloat$Loans" "borrower" "[I", Cond.fieldLink RX1 18 "Queuefloat$Loans" "due" "[I", Cond.fieldLink RX1 21 "Queuefloat$Loans" "pledge" "[I"]
def wsX4_lend : List Cond := .code yX4_lend cX4_lend 6 (some .int) :: ((wsX4_lend_r1 ++ (wsX4_lend_r2 ++ wsX4_lend_r3)) ++ wsX40 ++ wsX10 ++ wsX30 ++ wsX00 ++ (vx_atS RX4 144 "java/lang/IndexOutOfBoundsException" ["java/lang/RuntimeException", "java/lang/Exception"]).filter goodWord ++ (vx_atS RX4 201 "java/lang/IllegalArgumentException" ["java/lang/RuntimeException", "java/lang/Exception"]).filter goodWord ++ (vx_atS RX4 81 "java/lang/IllegalStateException" ["java/lang/RuntimeException", "java/lang/Exception"]).filter goodWord)
def wsX4_loans : List Cond := .code yX4_loans cX4_loans 1 (some .int) :: ([.fieldLink RX4 36 "Queuefloat" "market" "LQueuefloat$Loans;", .fieldLink RX4 169 "Queuefloat$Loans" "made" "I", .fieldLink RX4 170 "Queuefloat$Loans" "ended" "I"] ++ wsX40 ++ wsX10)
def wsX4_canRepay : List Cond := .code yX4_canRepay cX4_canRepay 3 (some .boolean) :: ([.fieldLink RX4 36 "Queuefloat" "market" "LQueuefloat$Loans;", .fieldLink RX4 183 "Queuefloat$Loans" "borrower" "[I", .fieldLink RX4 40 "Queuefloat" "closed" "[Z", .fieldLink RX4 10 "Queuefloat" "sums" "LQueuefloat$Sums;", .fieldLink RX4 73 "Queuefloat$Sums" "accountOf" "[I", .fieldLink RX4 261 "Queuefloat$Loans" "due" "[I", .fieldLink RX4 22 "Queuefloat" "limits" "LQueuefloat$Limits;", .fieldLink RX4 91 "Queuefloat$Limits" "floorOf" "[I"] ++ wsX40 ++ wsX10 ++ wsX30 ++ wsX00)
def wsX4_repay : List Cond := .code yX4_repay cX4_repay 3 none :: ([.fieldLink RX4 36 "Queuefloat" "market" "LQueuefloat$Loans;", .fieldLink RX4 183 "Queuefloat$Loans" "borrower" "[I", .fieldLink RX4 10 "Queuefloat" "sums" "LQueuefloat$Sums;", .fieldLink RX4 264 "Queuefloat$Loans" "lender" "[I", .fieldLink RX4 261 "Queuefloat$Loans" "due" "[I", .fieldLink RX4 44 "Queuefloat" "papersOf" "[I", .fieldLink RX4 267 "Queuefloat$Loans" "pledge" "[I", .methodLink RX4 165 yX3_move, .instanceMethod yX3_move, .selects RX3 yX3_move yX3_move, .initialized RX3, .code yX3_move cX3_move 4 none, .fieldLink RX3 9 "Queuefloat$Sums" "accountOf" "[I"] ++ wsX40 ++ wsX10 ++ wsX30)
def wsX4_close : List Cond := .code yX4_close cX4_close 2 (some .int) :: ([.fieldLink RX4 40 "Queuefloat" "closed" "[Z", .fieldLink RX4 29 "Queuefloat" "payments" "LQueuefloat$Payments;", .methodLink RX4 270 yX2_dropAllOf, .instanceMethod yX2_dropAllOf, .selects RX2 yX2_dropAllOf yX2_dropAllOf, .initialized RX2, .code yX2_dropAllOf cX2_dropAllOf 3 none, .fieldLink RX2 31 "Queuefloat$Payments" "made" "I", .fieldLink RX2 9 "Queuefloat$Payments" "from" "[I", .fieldLink RX2 15 "Queuefloat$Payments" "to" "[I", .fieldLink RX2 24 "Queuefloat$Payments" "waits" "[Z"] ++ wsX40 ++ wsX20)
def wsX4_sellPledge : List Cond := .code yX4_sellPledge cX4_sellPledge 4 none :: ([.fieldLink RX4 36 "Queuefloat" "market" "LQueuefloat$Loans;", .fieldLink RX4 267 "Queuefloat$Loans" "pledge" "[I", .fieldLink RX4 55 "Queuefloat" "paperPrice" "I", .fieldLink RX4 261 "Queuefloat$Loans" "due" "[I", .methodLink RX4 85 Lib.Math.min.name, .static Lib.Math.min.name, .initialized "java/lang/Math", .code Lib.Math.min.name Lib.Math.min.code 2 (some .int), .fieldLink RX4 10 "Queuefloat" "sums" "LQueuefloat$Sums;", .fieldLink RX4 73 "Queuefloat$Sums" "accountOf" "[I", .fieldLink RX4 264 "Queuefloat$Loans" "lender" "[I", .fieldLink RX4 183 "Queuefloat$Loans" "borrower" "[I", .fieldLink RX4 192 "Queuefloat" "proceeds" "I"] ++ wsX40 ++ wsX10 ++ wsX30)
def wsX4_morning_r1 : List Cond := [Cond.fieldLink RX4 10 "Queuefloat" "sums" "LQueuefloat$Sums;", Cond.fieldLink RX4 36 "Queuefloat" "market" "LQueuefloat$Loans;", Cond.fieldLink RX4 170 "Queuefloat$Loans" "ended" "I", Cond.fieldLink RX4 169 "Queuefloat$Loans" "made" "I", Cond.fieldLink RX4 183 "Queuefloat$Loans" "borrower" "[I", Cond.methodLink RX4 173 yX3_forgetPaid, Cond.instanceMethod yX3_forgetPaid, Cond.selects RX3 yX3_forgetPaid yX3_forgetPaid, Cond.initialized RX3, Cond.code yX3_forgetPaid cX3_forgetPaid 2 none, Cond.fieldLink RX3 15 "Queuefloat$Sums" "netPaid" "[I", Cond.methodLink RX4 176 yX4_canRepay, Cond.instanceMethod yX4_canRepay, Cond.selects RX4 yX4_canRepay yX4_canRepay, Cond.initialized RX4, Cond.code yX4_canRepay cX4_canRepay 3 (some .boolean), Cond.fieldLink RX4 40 "Queuefloat" "closed" "[Z", Cond.fieldLink RX4 73 "Queuefloat$Sums" "accountOf" "[I", Cond.fieldLink RX4 261 "Queuefloat$Loans" "due" "[I", Cond.fieldLink RX4 22 "Queuefloat" "limits" "LQueuefloat$Limits;", Cond.fieldLink RX4 91 "Queuefloat$Limits" "floorOf" "[I", Cond.methodLink RX4 180 yX4_repay, Cond.instanceMethod yX4_repay, Cond.selects RX4 yX4_repay yX4_repay]
def wsX4_morning_r2 : List Cond := [Cond.code yX4_repay cX4_repay 3 none, Cond.fieldLink RX4 264 "Queuefloat$Loans" "lender" "[I", Cond.fieldLink RX4 44 "Queuefloat" "papersOf" "[I", Cond.fieldLink RX4 267 "Queuefloat$Loans" "pledge" "[I", Cond.methodLink RX4 165 yX3_move, Cond.instanceMethod yX3_move, Cond.selects RX3 yX3_move yX3_move, Cond.code yX3_move cX3_move 4 none, Cond.fieldLink RX3 9 "Queuefloat$Sums" "accountOf" "[I", Cond.methodLink RX4 186 yX4_close, Cond.instanceMethod yX4_close, Cond.selects RX4 yX4_close yX4_close, Cond.code yX4_close cX4_close 2 (some .int), Cond.fieldLink RX4 29 "Queuefloat" "payments" "LQueuefloat$Payments;", Cond.methodLink RX4 270 yX2_dropAllOf, Cond.instanceMethod yX2_dropAllOf, Cond.selects RX2 yX2_dropAllOf yX2_dropAllOf, Cond.initialized RX2, Cond.code yX2_dropAllOf cX2_dropAllOf 3 none, Cond.fieldLink RX2 31 "Queuefloat$Payments" "made" "I", Cond.fieldLink RX2 9 "Queuefloat$Payments" "from" "[I", Cond.fieldLink RX2 15 "Queuefloat$Payments" "to" "[I", Cond.fieldLink RX2 24 "Queuefloat$Payments" "waits" "[Z", Cond.methodLink RX4 189 yX4_sellPledge]
def wsX4_morning_r3 : List Cond := [Cond.instanceMethod yX4_sellPledge, Cond.selects RX4 yX4_sellPledge yX4_sellPledge, Cond.code yX4_sellPledge cX4_sellPledge 4 none, Cond.fieldLink RX4 55 "Queuefloat" "paperPrice" "I", Cond.methodLink RX4 85 Lib.Math.min.name, Cond.static Lib.Math.min.name, Cond.initialized "java/lang/Math", Cond.code Lib.Math.min.name Lib.Math.min.code 2 (some .int), Cond.fieldLink RX4 192 "Queuefloat" "proceeds" "I"]
def wsX4_morning : List Cond := .code yX4_morning cX4_morning 3 (some .int) :: ((wsX4_morning_r1 ++ (wsX4_morning_r2 ++ wsX4_morning_r3)) ++ wsX40 ++ wsX10 ++ wsX30 ++ wsX00 ++ wsX20)
def wsX4_sold : List Cond := .code yX4_sold cX4_sold 1 (some .int) :: ([.fieldLink RX4 192 "Queuefloat" "proceeds" "I"] ++ wsX40)
def wsX5_init_r1 : List Cond := [Cond.methodLink RX5 1 objectInit, Cond.instanceMethod objectInit, Cond.code objectInit ⟨#[0xb1]⟩ 1 none, Cond.arrayClass .int, Cond.fieldLink RX5 7 "QueuefloatModel" "account" "[I", Cond.fieldLink RX5 13 "QueuefloatModel" "floor" "[I", Cond.fieldLink RX5 16 "QueuefloatModel" "papers" "[I", Cond.arrayClass .boolean, Cond.fieldLink RX5 19 "QueuefloatModel" "isClosed" "[Z", Cond.fieldLink RX5 23 "QueuefloatModel" "paid" "[I", Cond.fieldLink RX5 26 "QueuefloatModel" "bound" "[I", Cond.fieldLink RX5 29 "QueuefloatModel" "from" "[I", Cond.fieldLink RX5 32 "QueuefloatModel" "to" "[I", Cond.fieldLink RX5 35 "QueuefloatModel" "amount" "[I", Cond.fieldLink RX5 38 "QueuefloatModel" "priority" "[I", Cond.fieldLink RX5 41 "QueuefloatModel" "isWaiting" "[Z", Cond.fieldLink RX5 44 "QueuefloatModel" "small" "I", Cond.fieldLink RX5 48 "QueuefloatModel" "first" "[I", Cond.fieldLink RX5 51 "QueuefloatModel" "lender" "[I", Cond.fieldLink RX5 54 "QueuefloatModel" "borrower" "[I", Cond.fieldLink RX5 57 "QueuefloatModel" "lent" "[I", Cond.fieldLink RX5 60 "QueuefloatModel" "rate" "[I", Cond.fieldLink RX5 63 "QueuefloatModel" "pledged" "[I", Cond.fieldLink RX5 66 "QueuefloatModel" "isOpen" "[Z"]
def wsX5_init_r2 : List Cond := [Cond.fieldLink RX5 69 "QueuefloatModel" "price" "I", Cond.fieldLink RX5 72 "QueuefloatModel" "cut" "I", Cond.constant RX5 75 (1000000)]
def wsX5_init : List Cond := .code yX5_init cX5_init 2 none :: ((wsX5_init_r1 ++ wsX5_init_r2) ++ wsX50)
def wsX5_thrown : List Cond := .code yX5_thrown cX5_thrown 1 (some .int) :: ([.fieldLink RX5 76 "QueuefloatModel" "thrown" "I"] ++ wsX50)
def wsX5_fails : List Cond := .code yX5_fails cX5_fails 2 (some .int) :: ([.fieldLink RX5 76 "QueuefloatModel" "thrown" "I"] ++ wsX50)
def wsX5_asks : List Cond := .code yX5_asks cX5_asks 2 (some .boolean) :: ([.fieldLink RX5 76 "QueuefloatModel" "thrown" "I"] ++ wsX50)
def wsX5_in : List Cond := .code yX5_in cX5_in 3 (some .boolean) :: ([])
def wsX5_isBank : List Cond := .code yX5_isBank cX5_isBank 1 (some .boolean) :: ([])
def wsX5_isPayment : List Cond := .code yX5_isPayment cX5_isPayment 2 (some .boolean) :: ([.fieldLink RX5 79 "QueuefloatModel" "payments" "I"] ++ wsX50)
def wsX5_fund : List Cond := .code yX5_fund cX5_fund 3 (some .int) :: ([.constant RX5 75 (1000000), .fieldLink RX5 19 "QueuefloatModel" "isClosed" "[Z", .fieldLink RX5 7 "QueuefloatModel" "account" "[I", .constant RX5 98 (100000000), .methodLink RX5 82 yX5_isBank, .static yX5_isBank, .initialized RX5, .code yX5_isBank cX5_isBank 1 (some .boolean), .methodLink RX5 86 yX5_asks, .instanceMethod yX5_asks, .selects RX5 yX5_asks yX5_asks, .code yX5_asks cX5_asks 2 (some .boolean), .fieldLink RX5 76 "QueuefloatModel" "thrown" "I", .methodLink RX5 90 yX5_in, .static yX5_in, .code yX5_in cX5_in 3 (some .boolean), .methodLink RX5 94 yX5_fails, .instanceMethod yX5_fails, .selects RX5 yX5_fails yX5_fails, .code yX5_fails cX5_fails 2 (some .int)] ++ wsX50)
def wsX5_setFloor : List Cond := .code yX5_setFloor cX5_setFloor 4 (some .int) :: ([.constant RX5 99 (-1000000), .fieldLink RX5 7 "QueuefloatModel" "account" "[I", .fieldLink RX5 13 "QueuefloatModel" "floor" "[I", .methodLink RX5 82 yX5_isBank, .static yX5_isBank, .initialized RX5, .code yX5_isBank cX5_isBank 1 (some .boolean), .methodLink RX5 86 yX5_asks, .instanceMethod yX5_asks, .selects RX5 yX5_asks yX5_asks, .code yX5_asks cX5_asks 2 (some .boolean), .fieldLink RX5 76 "QueuefloatModel" "thrown" "I", .methodLink RX5 90 yX5_in, .static yX5_in, .code yX5_in cX5_in 3 (some .boolean), .methodLink RX5 94 yX5_fails, .instanceMethod yX5_fails, .selects RX5 yX5_fails yX5_fails, .code yX5_fails cX5_fails 2 (some .int)] ++ wsX50)
def wsX5_setBound : List Cond := .code yX5_setBound cX5_setBound 6 (some .int) :: ([.constant RX5 75 (1000000), .fieldLink RX5 23 "QueuefloatModel" "paid" "[I", .fieldLink RX5 26 "QueuefloatModel" "bound" "[I", .methodLink RX5 82 yX5_isBank, .static yX5_isBank, .initialized RX5, .code yX5_isBank cX5_isBank 1 (some .boolean), .methodLink RX5 86 yX5_asks, .instanceMethod yX5_asks, .selects RX5 yX5_asks yX5_asks, .code yX5_asks cX5_asks 2 (some .boolean), .fieldLink RX5 76 "QueuefloatModel" "thrown" "I", .methodLink RX5 90 yX5_in, .static yX5_in, .code yX5_in cX5_in 3 (some .boolean), .methodLink RX5 94 yX5_fails, .instanceMethod yX5_fails, .selects RX5 yX5_fails yX5_fails, .code yX5_fails cX5_fails 2 (some .int)] ++ wsX50)
def wsX5_givePapers : List Cond := .code yX5_givePapers cX5_givePapers 3 (some .int) :: ([.fieldLink RX5 19 "QueuefloatModel" "isClosed" "[Z", .fieldLink RX5 16 "QueuefloatModel" "papers" "[I", .constant RX5 100 (100000), .methodLink RX5 82 yX5_isBank, .static yX5_isBank, .initialized RX5, .code yX5_isBank cX5_isBank 1 (some .boolean), .methodLink RX5 86 yX5_asks, .instanceMethod yX5_asks, .selects RX5 yX5_asks yX5_asks, .code yX5_asks cX5_asks 2 (some .boolean), .fieldLink RX5 76 "QueuefloatModel" "thrown" "I", .methodLink RX5 90 yX5_in, .static yX5_in, .code yX5_in cX5_in 3 (some .boolean), .methodLink RX5 94 yX5_fails, .instanceMethod yX5_fails, .selects RX5 yX5_fails yX5_fails, .code yX5_fails cX5_fails 2 (some .int)] ++ wsX50)
def wsX5_account : List Cond := .code yX5_account cX5_account 2 (some .int) :: ([.fieldLink RX5 7 "QueuefloatModel" "account" "[I", .methodLink RX5 82 yX5_isBank, .static yX5_isBank, .initialized RX5, .code yX5_isBank cX5_isBank 1 (some .boolean), .methodLink RX5 86 yX5_asks, .instanceMethod yX5_asks, .selects RX5 yX5_asks yX5_asks, .code yX5_asks cX5_asks 2 (some .boolean), .fieldLink RX5 76 "QueuefloatModel" "thrown" "I"] ++ wsX50)
def wsX5_papers : List Cond := .code yX5_papers cX5_papers 2 (some .int) :: ([.fieldLink RX5 16 "QueuefloatModel" "papers" "[I", .methodLink RX5 82 yX5_isBank, .static yX5_isBank, .initialized RX5, .code yX5_isBank cX5_isBank 1 (some .boolean), .methodLink RX5 86 yX5_asks, .instanceMethod yX5_asks, .selects RX5 yX5_asks yX5_asks, .code yX5_asks cX5_asks 2 (some .boolean), .fieldLink RX5 76 "QueuefloatModel" "thrown" "I"] ++ wsX50)
def wsX5_isOpen : List Cond := .code yX5_isOpen cX5_isOpen 2 (some .boolean) :: ([.fieldLink RX5 19 "QueuefloatModel" "isClosed" "[Z", .methodLink RX5 82 yX5_isBank, .static yX5_isBank, .initialized RX5, .code yX5_isBank cX5_isBank 1 (some .boolean), .methodLink RX5 86 yX5_asks, .instanceMethod yX5_asks, .selects RX5 yX5_asks yX5_asks, .code yX5_asks cX5_asks 2 (some .boolean), .fieldLink RX5 76 "QueuefloatModel" "thrown" "I"] ++ wsX50)
def wsX5_paid : List Cond := .code yX5_paid cX5_paid 3 (some .int) :: ([.fieldLink RX5 23 "QueuefloatModel" "paid" "[I", .methodLink RX5 82 yX5_isBank, .static yX5_isBank, .initialized RX5, .code yX5_isBank cX5_isBank 1 (some .boolean), .methodLink RX5 86 yX5_asks, .instanceMethod yX5_asks, .selects RX5 yX5_asks yX5_asks, .code yX5_asks cX5_asks 2 (some .boolean), .fieldLink RX5 76 "QueuefloatModel" "thrown" "I"] ++ wsX50)
def wsX5_pay : List Cond := .code yX5_pay cX5_pay 5 (some .int) :: ([.constant RX5 100 (100000), .fieldLink RX5 19 "QueuefloatModel" "isClosed" "[Z", .fieldLink RX5 79 "QueuefloatModel" "payments" "I", .fieldLink RX5 29 "QueuefloatModel" "from" "[I", .fieldLink RX5 32 "QueuefloatModel" "to" "[I", .fieldLink RX5 35 "QueuefloatModel" "amount" "[I", .fieldLink RX5 38 "QueuefloatModel" "priority" "[I", .fieldLink RX5 41 "QueuefloatModel" "isWaiting" "[Z", .methodLink RX5 82 yX5_isBank, .static yX5_isBank, .initialized RX5, .code yX5_isBank cX5_isBank 1 (some .boolean), .methodLink RX5 86 yX5_asks, .instanceMethod yX5_asks, .selects RX5 yX5_asks yX5_asks, .code yX5_asks cX5_asks 2 (some .boolean), .fieldLink RX5 76 "QueuefloatModel" "thrown" "I", .methodLink RX5 90 yX5_in, .static yX5_in, .code yX5_in cX5_in 3 (some .boolean), .methodLink RX5 94 yX5_fails, .instanceMethod yX5_fails, .selects RX5 yX5_fails yX5_fails, .code yX5_fails cX5_fails 2 (some .int)] ++ wsX50)
def wsX5_waiting : List Cond := .code yX5_waiting cX5_waiting 3 (some .int) :: ([.fieldLink RX5 79 "QueuefloatModel" "payments" "I", .fieldLink RX5 41 "QueuefloatModel" "isWaiting" "[Z"] ++ wsX50)
def wsX5_drop : List Cond := .code yX5_drop cX5_drop 2 (some .int) :: ([.fieldLink RX5 41 "QueuefloatModel" "isWaiting" "[Z", .methodLink RX5 101 yX5_isPayment, .instanceMethod yX5_isPayment, .selects RX5 yX5_isPayment yX5_isPayment, .initialized RX5, .code yX5_isPayment cX5_isPayment 2 (some .boolean), .fieldLink RX5 79 "QueuefloatModel" "payments" "I", .methodLink RX5 86 yX5_asks, .instanceMethod yX5_asks, .selects RX5 yX5_asks yX5_asks, .code yX5_asks cX5_asks 2 (some .boolean), .fieldLink RX5 76 "QueuefloatModel" "thrown" "I", .methodLink RX5 94 yX5_fails, .instanceMethod yX5_fails, .selects RX5 yX5_fails yX5_fails, .code yX5_fails cX5_fails 2 (some .int), .methodLink RX5 104 yX5_waiting, .instanceMethod yX5_waiting, .selects RX5 yX5_waiting yX5_waiting, .code yX5_waiting cX5_waiting 3 (some .int)] ++ wsX50)
def wsX5_setSmall : List Cond := .code yX5_setSmall cX5_setSmall 3 (some .int) :: ([.constant RX5 100 (100000), .fieldLink RX5 44 "QueuefloatModel" "small" "I", .methodLink RX5 90 yX5_in, .static yX5_in, .initialized RX5, .code yX5_in cX5_in 3 (some .boolean), .methodLink RX5 86 yX5_asks, .instanceMethod yX5_asks, .selects RX5 yX5_asks yX5_asks, .code yX5_asks cX5_asks 2 (some .boolean), .fieldLink RX5 76 "QueuefloatModel" "thrown" "I"] ++ wsX50)
def wsX5_at : List Cond := .code yX5_at cX5_at 6 (some .int) :: ([.fieldLink RX5 79 "QueuefloatModel" "payments" "I", .fieldLink RX5 41 "QueuefloatModel" "isWaiting" "[Z", .fieldLink RX5 29 "QueuefloatModel" "from" "[I", .fieldLink RX5 38 "QueuefloatModel" "priority" "[I"] ++ wsX50)
def wsX5_reason : List Cond := .code yX5_reason cX5_reason 4 (some .int) :: ([.fieldLink RX5 29 "QueuefloatModel" "from" "[I", .fieldLink RX5 32 "QueuefloatModel" "to" "[I", .fieldLink RX5 41 "QueuefloatModel" "isWaiting" "[Z", .fieldLink RX5 7 "QueuefloatModel" "account" "[I", .fieldLink RX5 35 "QueuefloatModel" "amount" "[I", .fieldLink RX5 13 "QueuefloatModel" "floor" "[I", .fieldLink RX5 23 "QueuefloatModel" "paid" "[I", .fieldLink RX5 26 "QueuefloatModel" "bound" "[I"] ++ wsX50)
def wsX5_moves : List Cond := .code yX5_moves cX5_moves 4 none :: ([.fieldLink RX5 35 "QueuefloatModel" "amount" "[I", .fieldLink RX5 7 "QueuefloatModel" "account" "[I", .fieldLink RX5 29 "QueuefloatModel" "from" "[I", .fieldLink RX5 32 "QueuefloatModel" "to" "[I", .fieldLink RX5 23 "QueuefloatModel" "paid" "[I"] ++ wsX50)
def wsX5_goes : List Cond := .code yX5_goes cX5_goes 2 none :: ([.fieldLink RX5 41 "QueuefloatModel" "isWaiting" "[Z", .methodLink RX5 108 yX5_moves, .instanceMethod yX5_moves, .selects RX5 yX5_moves yX5_moves, .initialized RX5, .code yX5_moves cX5_moves 4 none, .fieldLink RX5 35 "QueuefloatModel" "amount" "[I", .fieldLink RX5 7 "QueuefloatModel" "account" "[I", .fieldLink RX5 29 "QueuefloatModel" "from" "[I", .fieldLink RX5 32 "QueuefloatModel" "to" "[I", .fieldLink RX5 23 "QueuefloatModel" "paid" "[I"] ++ wsX50)
def wsX5_isSound : List Cond := .code yX5_isSound cX5_isSound 3 (some .boolean) :: ([.fieldLink RX5 7 "QueuefloatModel" "account" "[I", .fieldLink RX5 13 "QueuefloatModel" "floor" "[I", .fieldLink RX5 23 "QueuefloatModel" "paid" "[I", .fieldLink RX5 26 "QueuefloatModel" "bound" "[I"] ++ wsX50)
def wsX5_next : List Cond := .code yX5_next cX5_next 5 (some .int) :: ([.fieldLink RX5 35 "QueuefloatModel" "amount" "[I", .fieldLink RX5 44 "QueuefloatModel" "small" "I", .methodLink RX5 112 yX5_at, .instanceMethod yX5_at, .selects RX5 yX5_at yX5_at, .initialized RX5, .code yX5_at cX5_at 6 (some .int), .fieldLink RX5 79 "QueuefloatModel" "payments" "I", .fieldLink RX5 41 "QueuefloatModel" "isWaiting" "[Z", .fieldLink RX5 29 "QueuefloatModel" "from" "[I", .fieldLink RX5 38 "QueuefloatModel" "priority" "[I", .methodLink RX5 116 yX5_reason, .instanceMethod yX5_reason, .selects RX5 yX5_reason yX5_reason, .code yX5_reason cX5_reason 4 (some .int), .fieldLink RX5 32 "QueuefloatModel" "to" "[I", .fieldLink RX5 7 "QueuefloatModel" "account" "[I", .fieldLink RX5 13 "QueuefloatModel" "floor" "[I", .fieldLink RX5 23 "QueuefloatModel" "paid" "[I", .fieldLink RX5 26 "QueuefloatModel" "bound" "[I"] ++ wsX50)
def wsX5_firsts : List Cond := .code yX5_firsts cX5_firsts 3 none :: ([.fieldLink RX5 48 "QueuefloatModel" "first" "[I", .methodLink RX5 112 yX5_at, .instanceMethod yX5_at, .selects RX5 yX5_at yX5_at, .initialized RX5, .code yX5_at cX5_at 6 (some .int), .fieldLink RX5 79 "QueuefloatModel" "payments" "I", .fieldLink RX5 41 "QueuefloatModel" "isWaiting" "[Z", .fieldLink RX5 29 "QueuefloatModel" "from" "[I", .fieldLink RX5 38 "QueuefloatModel" "priority" "[I"] ++ wsX50)
def wsX5_isSet_r1 : List Cond := [Cond.fieldLink RX5 48 "QueuefloatModel" "first" "[I", Cond.methodLink RX5 122 yX5_firsts, Cond.instanceMethod yX5_firsts, Cond.selects RX5 yX5_firsts yX5_firsts, Cond.initialized RX5, Cond.code yX5_firsts cX5_firsts 3 none, Cond.methodLink RX5 112 yX5_at, Cond.instanceMethod yX5_at, Cond.selects RX5 yX5_at yX5_at, Cond.code yX5_at cX5_at 6 (some .int), Cond.fieldLink RX5 79 "QueuefloatModel" "payments" "I", Cond.fieldLink RX5 41 "QueuefloatModel" "isWaiting" "[Z", Cond.fieldLink RX5 29 "QueuefloatModel" "from" "[I", Cond.fieldLink RX5 38 "QueuefloatModel" "priority" "[I", Cond.methodLink RX5 108 yX5_moves, Cond.instanceMethod yX5_moves, Cond.selects RX5 yX5_moves yX5_moves, Cond.code yX5_moves cX5_moves 4 none, Cond.fieldLink RX5 35 "QueuefloatModel" "amount" "[I", Cond.fieldLink RX5 7 "QueuefloatModel" "account" "[I", Cond.fieldLink RX5 32 "QueuefloatModel" "to" "[I", Cond.fieldLink RX5 23 "QueuefloatModel" "paid" "[I", Cond.methodLink RX5 129 yX5_isSound, Cond.instanceMethod yX5_isSound]
def wsX5_isSet_r2 : List Cond := [Cond.selects RX5 yX5_isSound yX5_isSound, Cond.code yX5_isSound cX5_isSound 3 (some .boolean), Cond.fieldLink RX5 13 "QueuefloatModel" "floor" "[I", Cond.fieldLink RX5 26 "QueuefloatModel" "bound" "[I"]
def wsX5_isSet : List Cond := .code yX5_isSet cX5_isSet 4 (some .boolean) :: ((wsX5_isSet_r1 ++ wsX5_isSet_r2) ++ wsX50)
def wsX5_goTogether_r1 : List Cond := [Cond.fieldLink RX5 48 "QueuefloatModel" "first" "[I", Cond.methodLink RX5 112 yX5_at, Cond.instanceMethod yX5_at, Cond.selects RX5 yX5_at yX5_at, Cond.initialized RX5, Cond.code yX5_at cX5_at 6 (some .int), Cond.fieldLink RX5 79 "QueuefloatModel" "payments" "I", Cond.fieldLink RX5 41 "QueuefloatModel" "isWaiting" "[Z", Cond.fieldLink RX5 29 "QueuefloatModel" "from" "[I", Cond.fieldLink RX5 38 "QueuefloatModel" "priority" "[I", Cond.methodLink RX5 119 yX5_isSet, Cond.instanceMethod yX5_isSet, Cond.selects RX5 yX5_isSet yX5_isSet, Cond.code yX5_isSet cX5_isSet 4 (some .boolean), Cond.methodLink RX5 122 yX5_firsts, Cond.instanceMethod yX5_firsts, Cond.selects RX5 yX5_firsts yX5_firsts, Cond.code yX5_firsts cX5_firsts 3 none, Cond.methodLink RX5 108 yX5_moves, Cond.instanceMethod yX5_moves, Cond.selects RX5 yX5_moves yX5_moves, Cond.code yX5_moves cX5_moves 4 none, Cond.fieldLink RX5 35 "QueuefloatModel" "amount" "[I", Cond.fieldLink RX5 7 "QueuefloatModel" "account" "[I"]
def wsX5_goTogether_r2 : List Cond := [Cond.fieldLink RX5 32 "QueuefloatModel" "to" "[I", Cond.fieldLink RX5 23 "QueuefloatModel" "paid" "[I", Cond.methodLink RX5 129 yX5_isSound, Cond.instanceMethod yX5_isSound, Cond.selects RX5 yX5_isSound yX5_isSound, Cond.code yX5_isSound cX5_isSound 3 (some .boolean), Cond.fieldLink RX5 13 "QueuefloatModel" "floor" "[I", Cond.fieldLink RX5 26 "QueuefloatModel" "bound" "[I", Cond.methodLink RX5 126 yX5_goes, Cond.instanceMethod yX5_goes, Cond.selects RX5 yX5_goes yX5_goes, Cond.code yX5_goes cX5_goes 2 none]
def wsX5_goTogether : List Cond := .code yX5_goTogether cX5_goTogether 8 (some .int) :: ((wsX5_goTogether_r1 ++ wsX5_goTogether_r2) ++ wsX50)
def wsX5_run_r1 : List Cond := [Cond.fieldLink RX5 76 "QueuefloatModel" "thrown" "I", Cond.methodLink RX5 133 yX5_next, Cond.instanceMethod yX5_next, Cond.selects RX5 yX5_next yX5_next, Cond.initialized RX5, Cond.code yX5_next cX5_next 5 (some .int), Cond.fieldLink RX5 35 "QueuefloatModel" "amount" "[I", Cond.fieldLink RX5 44 "QueuefloatModel" "small" "I", Cond.methodLink RX5 112 yX5_at, Cond.instanceMethod yX5_at, Cond.selects RX5 yX5_at yX5_at, Cond.code yX5_at cX5_at 6 (some .int), Cond.fieldLink RX5 79 "QueuefloatModel" "payments" "I", Cond.fieldLink RX5 41 "QueuefloatModel" "isWaiting" "[Z", Cond.fieldLink RX5 29 "QueuefloatModel" "from" "[I", Cond.fieldLink RX5 38 "QueuefloatModel" "priority" "[I", Cond.methodLink RX5 116 yX5_reason, Cond.instanceMethod yX5_reason, Cond.selects RX5 yX5_reason yX5_reason, Cond.code yX5_reason cX5_reason 4 (some .int), Cond.fieldLink RX5 32 "QueuefloatModel" "to" "[I", Cond.fieldLink RX5 7 "QueuefloatModel" "account" "[I", Cond.fieldLink RX5 13 "QueuefloatModel" "floor" "[I", Cond.fieldLink RX5 23 "QueuefloatModel" "paid" "[I"]
def wsX5_run_r2 : List Cond := [Cond.fieldLink RX5 26 "QueuefloatModel" "bound" "[I", Cond.methodLink RX5 126 yX5_goes, Cond.instanceMethod yX5_goes, Cond.selects RX5 yX5_goes yX5_goes, Cond.code yX5_goes cX5_goes 2 none, Cond.methodLink RX5 108 yX5_moves, Cond.instanceMethod yX5_moves, Cond.selects RX5 yX5_moves yX5_moves, Cond.code yX5_moves cX5_moves 4 none, Cond.methodLink RX5 136 yX5_goTogether, Cond.instanceMethod yX5_goTogether, Cond.selects RX5 yX5_goTogether yX5_goTogether, Cond.code yX5_goTogether cX5_goTogether 8 (some .int), Cond.fieldLink RX5 48 "QueuefloatModel" "first" "[I", Cond.methodLink RX5 119 yX5_isSet, Cond.instanceMethod yX5_isSet, Cond.selects RX5 yX5_isSet yX5_isSet, Cond.code yX5_isSet cX5_isSet 4 (some .boolean), Cond.methodLink RX5 122 yX5_firsts, Cond.instanceMethod yX5_firsts, Cond.selects RX5 yX5_firsts yX5_firsts, Cond.code yX5_firsts cX5_firsts 3 none, Cond.methodLink RX5 129 yX5_isSound, Cond.instanceMethod yX5_isSound]
def wsX5_run_r3 : List Cond := [Cond.selects RX5 yX5_isSound yX5_isSound, Cond.code yX5_isSound cX5_isSound 3 (some .boolean)]
def wsX5_run : List Cond := .code yX5_run cX5_run 6 (some .int) :: ((wsX5_run_r1 ++ (wsX5_run_r2 ++ wsX5_run_r3)) ++ wsX50)
def wsX5_queued : List Cond := .code yX5_queued cX5_queued 3 (some .int) :: ([.methodLink RX5 82 yX5_isBank, .static yX5_isBank, .initialized RX5, .code yX5_isBank cX5_isBank 1 (some .boolean), .methodLink RX5 86 yX5_asks, .instanceMethod yX5_asks, .selects RX5 yX5_asks yX5_asks, .code yX5_asks cX5_asks 2 (some .boolean), .fieldLink RX5 76 "QueuefloatModel" "thrown" "I", .methodLink RX5 112 yX5_at, .instanceMethod yX5_at, .selects RX5 yX5_at yX5_at, .code yX5_at cX5_at 6 (some .int), .fieldLink RX5 79 "QueuefloatModel" "payments" "I", .fieldLink RX5 41 "QueuefloatModel" "isWaiting" "[Z", .fieldLink RX5 29 "QueuefloatModel" "from" "[I", .fieldLink RX5 38 "QueuefloatModel" "priority" "[I"] ++ wsX50)
def wsX5_why : List Cond := .code yX5_why cX5_why 2 (some .int) :: ([.methodLink RX5 101 yX5_isPayment, .instanceMethod yX5_isPayment, .selects RX5 yX5_isPayment yX5_isPayment, .initialized RX5, .code yX5_isPayment cX5_isPayment 2 (some .boolean), .fieldLink RX5 79 "QueuefloatModel" "payments" "I", .methodLink RX5 86 yX5_asks, .instanceMethod yX5_asks, .selects RX5 yX5_asks yX5_asks, .code yX5_asks cX5_asks 2 (some .boolean), .fieldLink RX5 76 "QueuefloatModel" "thrown" "I", .methodLink RX5 116 yX5_reason, .instanceMethod yX5_reason, .selects RX5 yX5_reason yX5_reason, .code yX5_reason cX5_reason 4 (some .int), .fieldLink RX5 29 "QueuefloatModel" "from" "[I", .fieldLink RX5 32 "QueuefloatModel" "to" "[I", .fieldLink RX5 41 "QueuefloatModel" "isWaiting" "[Z", .fieldLink RX5 7 "QueuefloatModel" "account" "[I", .fieldLink RX5 35 "QueuefloatModel" "amount" "[I", .fieldLink RX5 13 "QueuefloatModel" "floor" "[I", .fieldLink RX5 23 "QueuefloatModel" "paid" "[I", .fieldLink RX5 26 "QueuefloatModel" "bound" "[I"] ++ wsX50)
def wsX5_moveSet : List Cond := .code yX5_moveSet cX5_moveSet 5 none :: ([.fieldLink RX5 79 "QueuefloatModel" "payments" "I", .fieldLink RX5 41 "QueuefloatModel" "isWaiting" "[Z", .methodLink RX5 108 yX5_moves, .instanceMethod yX5_moves, .selects RX5 yX5_moves yX5_moves, .initialized RX5, .code yX5_moves cX5_moves 4 none, .fieldLink RX5 35 "QueuefloatModel" "amount" "[I", .fieldLink RX5 7 "QueuefloatModel" "account" "[I", .fieldLink RX5 29 "QueuefloatModel" "from" "[I", .fieldLink RX5 32 "QueuefloatModel" "to" "[I", .fieldLink RX5 23 "QueuefloatModel" "paid" "[I"] ++ wsX50)
def wsX5_canAny_r1 : List Cond := [Cond.methodLink RX5 104 yX5_waiting, Cond.instanceMethod yX5_waiting, Cond.selects RX5 yX5_waiting yX5_waiting, Cond.initialized RX5, Cond.code yX5_waiting cX5_waiting 3 (some .int), Cond.fieldLink RX5 79 "QueuefloatModel" "payments" "I", Cond.fieldLink RX5 41 "QueuefloatModel" "isWaiting" "[Z", Cond.methodLink RX5 86 yX5_asks, Cond.instanceMethod yX5_asks, Cond.selects RX5 yX5_asks yX5_asks, Cond.code yX5_asks cX5_asks 2 (some .boolean), Cond.fieldLink RX5 76 "QueuefloatModel" "thrown" "I", Cond.methodLink RX5 139 yX5_moveSet, Cond.instanceMethod yX5_moveSet, Cond.selects RX5 yX5_moveSet yX5_moveSet, Cond.code yX5_moveSet cX5_moveSet 5 none, Cond.methodLink RX5 108 yX5_moves, Cond.instanceMethod yX5_moves, Cond.selects RX5 yX5_moves yX5_moves, Cond.code yX5_moves cX5_moves 4 none, Cond.fieldLink RX5 35 "QueuefloatModel" "amount" "[I", Cond.fieldLink RX5 7 "QueuefloatModel" "account" "[I", Cond.fieldLink RX5 29 "QueuefloatModel" "from" "[I", Cond.fieldLink RX5 32 "QueuefloatModel" "to" "[I"]
def wsX5_canAny_r2 : List Cond := [Cond.fieldLink RX5 23 "QueuefloatModel" "paid" "[I", Cond.methodLink RX5 129 yX5_isSound, Cond.instanceMethod yX5_isSound, Cond.selects RX5 yX5_isSound yX5_isSound, Cond.code yX5_isSound cX5_isSound 3 (some .boolean), Cond.fieldLink RX5 13 "QueuefloatModel" "floor" "[I", Cond.fieldLink RX5 26 "QueuefloatModel" "bound" "[I"]
def wsX5_canAny : List Cond := .code yX5_canAny cX5_canAny 3 (some .boolean) :: ((wsX5_canAny_r1 ++ wsX5_canAny_r2) ++ wsX50)
def wsX5_setPrice : List Cond := .code yX5_setPrice cX5_setPrice 3 none :: ([.fieldLink RX5 69 "QueuefloatModel" "price" "I", .fieldLink RX5 72 "QueuefloatModel" "cut" "I", .methodLink RX5 90 yX5_in, .static yX5_in, .initialized RX5, .code yX5_in cX5_in 3 (some .boolean), .methodLink RX5 86 yX5_asks, .instanceMethod yX5_asks, .selects RX5 yX5_asks yX5_asks, .code yX5_asks cX5_asks 2 (some .boolean), .fieldLink RX5 76 "QueuefloatModel" "thrown" "I"] ++ wsX50)
def wsX5_lend_r1 : List Cond := [Cond.constant RX5 100 (100000), Cond.fieldLink RX5 69 "QueuefloatModel" "price" "I", Cond.fieldLink RX5 72 "QueuefloatModel" "cut" "I", Cond.constantLong RX5 142 (1000), Cond.fieldLink RX5 19 "QueuefloatModel" "isClosed" "[Z", Cond.fieldLink RX5 144 "QueuefloatModel" "loans" "I", Cond.fieldLink RX5 16 "QueuefloatModel" "papers" "[I", Cond.fieldLink RX5 7 "QueuefloatModel" "account" "[I", Cond.fieldLink RX5 13 "QueuefloatModel" "floor" "[I", Cond.fieldLink RX5 51 "QueuefloatModel" "lender" "[I", Cond.fieldLink RX5 54 "QueuefloatModel" "borrower" "[I", Cond.fieldLink RX5 57 "QueuefloatModel" "lent" "[I", Cond.fieldLink RX5 60 "QueuefloatModel" "rate" "[I", Cond.fieldLink RX5 63 "QueuefloatModel" "pledged" "[I", Cond.fieldLink RX5 66 "QueuefloatModel" "isOpen" "[Z", Cond.methodLink RX5 82 yX5_isBank, Cond.static yX5_isBank, Cond.initialized RX5, Cond.code yX5_isBank cX5_isBank 1 (some .boolean), Cond.methodLink RX5 86 yX5_asks, Cond.instanceMethod yX5_asks, Cond.selects RX5 yX5_asks yX5_asks, Cond.code yX5_asks cX5_asks 2 (some .boolean), Cond.fieldLink RX5 76 "QueuefloatModel" "thrown" "I"]
def wsX5_lend_r2 : List Cond := [Cond.methodLink RX5 90 yX5_in, Cond.static yX5_in, Cond.code yX5_in cX5_in 3 (some .boolean), Cond.methodLink RX5 94 yX5_fails, Cond.instanceMethod yX5_fails, Cond.selects RX5 yX5_fails yX5_fails, Cond.code yX5_fails cX5_fails 2 (some .int)]
def wsX5_lend : List Cond := .code yX5_lend cX5_lend 8 (some .int) :: ((wsX5_lend_r1 ++ wsX5_lend_r2) ++ wsX50)
def wsX5_loans : List Cond := .code yX5_loans cX5_loans 3 (some .int) :: ([.fieldLink RX5 76 "QueuefloatModel" "thrown" "I", .fieldLink RX5 144 "QueuefloatModel" "loans" "I", .fieldLink RX5 66 "QueuefloatModel" "isOpen" "[Z"] ++ wsX50)
def wsX5_closes : List Cond := .code yX5_closes cX5_closes 3 none :: ([.fieldLink RX5 19 "QueuefloatModel" "isClosed" "[Z", .fieldLink RX5 79 "QueuefloatModel" "payments" "I", .fieldLink RX5 41 "QueuefloatModel" "isWaiting" "[Z", .fieldLink RX5 29 "QueuefloatModel" "from" "[I", .fieldLink RX5 32 "QueuefloatModel" "to" "[I"] ++ wsX50)
def wsX5_ends : List Cond := .code yX5_ends cX5_ends 7 (some .boolean) :: ([.fieldLink RX5 54 "QueuefloatModel" "borrower" "[I", .fieldLink RX5 57 "QueuefloatModel" "lent" "[I", .fieldLink RX5 60 "QueuefloatModel" "rate" "[I", .fieldLink RX5 66 "QueuefloatModel" "isOpen" "[Z", .fieldLink RX5 19 "QueuefloatModel" "isClosed" "[Z", .fieldLink RX5 7 "QueuefloatModel" "account" "[I", .fieldLink RX5 13 "QueuefloatModel" "floor" "[I", .fieldLink RX5 51 "QueuefloatModel" "lender" "[I", .fieldLink RX5 16 "QueuefloatModel" "papers" "[I", .fieldLink RX5 63 "QueuefloatModel" "pledged" "[I", .fieldLink RX5 69 "QueuefloatModel" "price" "I", .fieldLink RX5 147 "QueuefloatModel" "sold" "I", .methodLink RX5 150 yX5_closes, .instanceMethod yX5_closes, .selects RX5 yX5_closes yX5_closes, .initialized RX5, .code yX5_closes cX5_closes 3 none, .fieldLink RX5 79 "QueuefloatModel" "payments" "I", .fieldLink RX5 41 "QueuefloatModel" "isWaiting" "[Z", .fieldLink RX5 29 "QueuefloatModel" "from" "[I", .fieldLink RX5 32 "QueuefloatModel" "to" "[I"] ++ wsX50)
def wsX5_morning_r1 : List Cond := [Cond.fieldLink RX5 76 "QueuefloatModel" "thrown" "I", Cond.fieldLink RX5 23 "QueuefloatModel" "paid" "[I", Cond.fieldLink RX5 144 "QueuefloatModel" "loans" "I", Cond.fieldLink RX5 66 "QueuefloatModel" "isOpen" "[Z", Cond.methodLink RX5 153 yX5_ends, Cond.instanceMethod yX5_ends, Cond.selects RX5 yX5_ends yX5_ends, Cond.initialized RX5, Cond.code yX5_ends cX5_ends 7 (some .boolean), Cond.fieldLink RX5 54 "QueuefloatModel" "borrower" "[I", Cond.fieldLink RX5 57 "QueuefloatModel" "lent" "[I", Cond.fieldLink RX5 60 "QueuefloatModel" "rate" "[I", Cond.fieldLink RX5 19 "QueuefloatModel" "isClosed" "[Z", Cond.fieldLink RX5 7 "QueuefloatModel" "account" "[I", Cond.fieldLink RX5 13 "QueuefloatModel" "floor" "[I", Cond.fieldLink RX5 51 "QueuefloatModel" "lender" "[I", Cond.fieldLink RX5 16 "QueuefloatModel" "papers" "[I", Cond.fieldLink RX5 63 "QueuefloatModel" "pledged" "[I", Cond.fieldLink RX5 69 "QueuefloatModel" "price" "I", Cond.fieldLink RX5 147 "QueuefloatModel" "sold" "I", Cond.methodLink RX5 150 yX5_closes, Cond.instanceMethod yX5_closes, Cond.selects RX5 yX5_closes yX5_closes, Cond.code yX5_closes cX5_closes 3 none]
def wsX5_morning_r2 : List Cond := [Cond.fieldLink RX5 79 "QueuefloatModel" "payments" "I", Cond.fieldLink RX5 41 "QueuefloatModel" "isWaiting" "[Z", Cond.fieldLink RX5 29 "QueuefloatModel" "from" "[I", Cond.fieldLink RX5 32 "QueuefloatModel" "to" "[I"]
def wsX5_morning : List Cond := .code yX5_morning cX5_morning 3 (some .int) :: ((wsX5_morning_r1 ++ wsX5_morning_r2) ++ wsX50)
def wsX5_sold : List Cond := .code yX5_sold cX5_sold 1 (some .int) :: ([.fieldLink RX5 76 "QueuefloatModel" "thrown" "I", .fieldLink RX5 147 "QueuefloatModel" "sold" "I"] ++ wsX50)
def wsJ9_max_7cf53 : List Cond := .code yJ9_max_7cf53 cJ9_max_7cf53 2 (some .int) :: ([])
def wsJ9_min_7cf53 : List Cond := .code yJ9_min_7cf53 cJ9_min_7cf53 2 (some .int) :: ([])
def wsL_fund_r1 : List Cond := [Cond.classLink RL 13 "java/lang/IndexOutOfBoundsException", Cond.classLink RL 15 "java/lang/IllegalArgumentException", Cond.classLink RL 17 "java/lang/IllegalStateException", Cond.methodLink RL 7 yX4_fund, Cond.instanceMethod yX4_fund, Cond.selects RX4 yX4_fund yX4_fund, Cond.initialized RX4, Cond.code yX4_fund cX4_fund 3 (some .int), Cond.classLink RX4 77 "java/lang/IllegalStateException", Cond.initialized "java/lang/IllegalStateException", Cond.constant RX4 65 (1000000), Cond.fieldLink RX4 10 "Queuefloat" "sums" "LQueuefloat$Sums;", Cond.fieldLink RX4 73 "Queuefloat$Sums" "accountOf" "[I", Cond.constant RX4 76 (100000000), Cond.methodLink RX4 61 yX4_requireBank, Cond.static yX4_requireBank, Cond.code yX4_requireBank cX4_requireBank 1 none, Cond.classLink RX4 140 "java/lang/IndexOutOfBoundsException", Cond.initialized "java/lang/IndexOutOfBoundsException", Cond.methodLink RX4 66 yX4_requireRange, Cond.static yX4_requireRange, Cond.code yX4_requireRange cX4_requireRange 3 none, Cond.classLink RX4 197 "java/lang/IllegalArgumentException", Cond.initialized "java/lang/IllegalArgumentException"]
def wsL_fund_r2 : List Cond := [Cond.methodLink RX4 70 yX4_requireOpen, Cond.instanceMethod yX4_requireOpen, Cond.selects RX4 yX4_requireOpen yX4_requireOpen, Cond.code yX4_requireOpen cX4_requireOpen 2 none, Cond.fieldLink RX4 40 "Queuefloat" "closed" "[Z"]
def wsL_fund : List Cond := .codeWith yL_fund cL_fund 5 (some .int) [(0, 10, 13, 13), (0, 10, 17, 15), (0, 10, 21, 17)] :: ((wsL_fund_r1 ++ wsL_fund_r2) ++ wsX40 ++ wsX30 ++ (vx_atS RX4 81 "java/lang/IllegalStateException" ["java/lang/RuntimeException", "java/lang/Exception"]).filter goodWord ++ (vx_atS RX4 144 "java/lang/IndexOutOfBoundsException" ["java/lang/RuntimeException", "java/lang/Exception"]).filter goodWord ++ (vx_atS RX4 201 "java/lang/IllegalArgumentException" ["java/lang/RuntimeException", "java/lang/Exception"]).filter goodWord)
def wsL_setFloor_r1 : List Cond := [Cond.classLink RL 13 "java/lang/IndexOutOfBoundsException", Cond.classLink RL 15 "java/lang/IllegalArgumentException", Cond.methodLink RL 19 yX4_setFloor, Cond.instanceMethod yX4_setFloor, Cond.selects RX4 yX4_setFloor yX4_setFloor, Cond.initialized RX4, Cond.code yX4_setFloor cX4_setFloor 4 (some .int), Cond.constant RX4 84 (-1000000), Cond.fieldLink RX4 10 "Queuefloat" "sums" "LQueuefloat$Sums;", Cond.fieldLink RX4 73 "Queuefloat$Sums" "accountOf" "[I", Cond.methodLink RX4 85 Lib.Math.min.name, Cond.static Lib.Math.min.name, Cond.initialized "java/lang/Math", Cond.code Lib.Math.min.name Lib.Math.min.code 2 (some .int), Cond.fieldLink RX4 22 "Queuefloat" "limits" "LQueuefloat$Limits;", Cond.fieldLink RX4 91 "Queuefloat$Limits" "floorOf" "[I", Cond.methodLink RX4 61 yX4_requireBank, Cond.static yX4_requireBank, Cond.code yX4_requireBank cX4_requireBank 1 none, Cond.classLink RX4 140 "java/lang/IndexOutOfBoundsException", Cond.initialized "java/lang/IndexOutOfBoundsException", Cond.methodLink RX4 66 yX4_requireRange, Cond.static yX4_requireRange, Cond.code yX4_requireRange cX4_requireRange 3 none]
def wsL_setFloor_r2 : List Cond := [Cond.classLink RX4 197 "java/lang/IllegalArgumentException", Cond.initialized "java/lang/IllegalArgumentException"]
def wsL_setFloor : List Cond := .codeWith yL_setFloor cL_setFloor 5 (some .int) [(0, 10, 13, 13), (0, 10, 17, 15)] :: ((wsL_setFloor_r1 ++ wsL_setFloor_r2) ++ wsX40 ++ wsX30 ++ wsX00 ++ (vx_atS RX4 144 "java/lang/IndexOutOfBoundsException" ["java/lang/RuntimeException", "java/lang/Exception"]).filter goodWord ++ (vx_atS RX4 201 "java/lang/IllegalArgumentException" ["java/lang/RuntimeException", "java/lang/Exception"]).filter goodWord)
def wsL_setBound_r1 : List Cond := [Cond.classLink RL 13 "java/lang/IndexOutOfBoundsException", Cond.classLink RL 15 "java/lang/IllegalArgumentException", Cond.methodLink RL 22 yX4_setBound, Cond.instanceMethod yX4_setBound, Cond.selects RX4 yX4_setBound yX4_setBound, Cond.initialized RX4, Cond.code yX4_setBound cX4_setBound 6 (some .int), Cond.fieldLink RX4 10 "Queuefloat" "sums" "LQueuefloat$Sums;", Cond.fieldLink RX4 101 "Queuefloat$Sums" "netPaid" "[I", Cond.methodLink RX4 104 Lib.Math.max.name, Cond.static Lib.Math.max.name, Cond.initialized "java/lang/Math", Cond.code Lib.Math.max.name Lib.Math.max.code 2 (some .int), Cond.constant RX4 65 (1000000), Cond.fieldLink RX4 22 "Queuefloat" "limits" "LQueuefloat$Limits;", Cond.fieldLink RX4 107 "Queuefloat$Limits" "boundOf" "[I", Cond.methodLink RX4 61 yX4_requireBank, Cond.static yX4_requireBank, Cond.code yX4_requireBank cX4_requireBank 1 none, Cond.classLink RX4 140 "java/lang/IndexOutOfBoundsException", Cond.initialized "java/lang/IndexOutOfBoundsException", Cond.methodLink RX4 94 yX4_requireTwo, Cond.static yX4_requireTwo, Cond.code yX4_requireTwo cX4_requireTwo 2 none]
def wsL_setBound_r2 : List Cond := [Cond.classLink RX4 197 "java/lang/IllegalArgumentException", Cond.initialized "java/lang/IllegalArgumentException", Cond.methodLink RX4 98 yX4_pairOf, Cond.static yX4_pairOf, Cond.code yX4_pairOf cX4_pairOf 2 (some .int), Cond.methodLink RX4 66 yX4_requireRange, Cond.static yX4_requireRange, Cond.code yX4_requireRange cX4_requireRange 3 none]
def wsL_setBound : List Cond := .codeWith yL_setBound cL_setBound 6 (some .int) [(0, 12, 15, 13), (0, 12, 19, 15)] :: ((wsL_setBound_r1 ++ wsL_setBound_r2) ++ wsX40 ++ wsX30 ++ wsX00 ++ (vx_atS RX4 144 "java/lang/IndexOutOfBoundsException" ["java/lang/RuntimeException", "java/lang/Exception"]).filter goodWord ++ (vx_atS RX4 201 "java/lang/IllegalArgumentException" ["java/lang/RuntimeException", "java/lang/Exception"]).filter goodWord)
def wsL_givePapers_r1 : List Cond := [Cond.classLink RL 13 "java/lang/IndexOutOfBoundsException", Cond.classLink RL 15 "java/lang/IllegalArgumentException", Cond.classLink RL 17 "java/lang/IllegalStateException", Cond.methodLink RL 26 yX4_givePapers, Cond.instanceMethod yX4_givePapers, Cond.selects RX4 yX4_givePapers yX4_givePapers, Cond.initialized RX4, Cond.code yX4_givePapers cX4_givePapers 3 (some .int), Cond.classLink RX4 77 "java/lang/IllegalStateException", Cond.initialized "java/lang/IllegalStateException", Cond.fieldLink RX4 44 "Queuefloat" "papersOf" "[I", Cond.constant RX4 110 (100000), Cond.methodLink RX4 61 yX4_requireBank, Cond.static yX4_requireBank, Cond.code yX4_requireBank cX4_requireBank 1 none, Cond.classLink RX4 140 "java/lang/IndexOutOfBoundsException", Cond.initialized "java/lang/IndexOutOfBoundsException", Cond.methodLink RX4 66 yX4_requireRange, Cond.static yX4_requireRange, Cond.code yX4_requireRange cX4_requireRange 3 none, Cond.classLink RX4 197 "java/lang/IllegalArgumentException", Cond.initialized "java/lang/IllegalArgumentException", Cond.methodLink RX4 70 yX4_requireOpen, Cond.instanceMethod yX4_requireOpen]
def wsL_givePapers_r2 : List Cond := [Cond.selects RX4 yX4_requireOpen yX4_requireOpen, Cond.code yX4_requireOpen cX4_requireOpen 2 none, Cond.fieldLink RX4 40 "Queuefloat" "closed" "[Z"]
def wsL_givePapers : List Cond := .codeWith yL_givePapers cL_givePapers 5 (some .int) [(0, 10, 13, 13), (0, 10, 17, 15), (0, 10, 21, 17)] :: ((wsL_givePapers_r1 ++ wsL_givePapers_r2) ++ wsX40 ++ (vx_atS RX4 81 "java/lang/IllegalStateException" ["java/lang/RuntimeException", "java/lang/Exception"]).filter goodWord ++ (vx_atS RX4 144 "java/lang/IndexOutOfBoundsException" ["java/lang/RuntimeException", "java/lang/Exception"]).filter goodWord ++ (vx_atS RX4 201 "java/lang/IllegalArgumentException" ["java/lang/RuntimeException", "java/lang/Exception"]).filter goodWord)
def wsL_account : List Cond := .codeWith yL_account cL_account 4 (some .int) [(0, 9, 12, 13)] :: ([.classLink RL 13 "java/lang/IndexOutOfBoundsException", .methodLink RL 29 yX4_account, .instanceMethod yX4_account, .selects RX4 yX4_account yX4_account, .initialized RX4, .code yX4_account cX4_account 2 (some .int), .fieldLink RX4 10 "Queuefloat" "sums" "LQueuefloat$Sums;", .fieldLink RX4 73 "Queuefloat$Sums" "accountOf" "[I", .methodLink RX4 61 yX4_requireBank, .static yX4_requireBank, .code yX4_requireBank cX4_requireBank 1 none, .classLink RX4 140 "java/lang/IndexOutOfBoundsException", .initialized "java/lang/IndexOutOfBoundsException"] ++ wsX40 ++ wsX30 ++ (vx_atS RX4 144 "java/lang/IndexOutOfBoundsException" ["java/lang/RuntimeException", "java/lang/Exception"]).filter goodWord)
def wsL_papers : List Cond := .codeWith yL_papers cL_papers 4 (some .int) [(0, 9, 12, 13)] :: ([.classLink RL 13 "java/lang/IndexOutOfBoundsException", .methodLink RL 33 yX4_papers, .instanceMethod yX4_papers, .selects RX4 yX4_papers yX4_papers, .initialized RX4, .code yX4_papers cX4_papers 2 (some .int), .fieldLink RX4 44 "Queuefloat" "papersOf" "[I", .methodLink RX4 61 yX4_requireBank, .static yX4_requireBank, .code yX4_requireBank cX4_requireBank 1 none, .classLink RX4 140 "java/lang/IndexOutOfBoundsException", .initialized "java/lang/IndexOutOfBoundsException"] ++ wsX40 ++ (vx_atS RX4 144 "java/lang/IndexOutOfBoundsException" ["java/lang/RuntimeException", "java/lang/Exception"]).filter goodWord)
def wsL_isOpen : List Cond := .codeWith yL_isOpen cL_isOpen 4 (some .int) [(0, 16, 19, 13)] :: ([.classLink RL 13 "java/lang/IndexOutOfBoundsException", .methodLink RL 36 yX4_isOpen, .instanceMethod yX4_isOpen, .selects RX4 yX4_isOpen yX4_isOpen, .initialized RX4, .code yX4_isOpen cX4_isOpen 2 (some .boolean), .fieldLink RX4 40 "Queuefloat" "closed" "[Z", .methodLink RX4 61 yX4_requireBank, .static yX4_requireBank, .code yX4_requireBank cX4_requireBank 1 none, .classLink RX4 140 "java/lang/IndexOutOfBoundsException", .initialized "java/lang/IndexOutOfBoundsException"] ++ wsX40 ++ (vx_atS RX4 144 "java/lang/IndexOutOfBoundsException" ["java/lang/RuntimeException", "java/lang/Exception"]).filter goodWord)
def wsL_paid : List Cond := .codeWith yL_paid cL_paid 5 (some .int) [(0, 10, 13, 13)] :: ([.classLink RL 13 "java/lang/IndexOutOfBoundsException", .methodLink RL 40 yX4_paid, .instanceMethod yX4_paid, .selects RX4 yX4_paid yX4_paid, .initialized RX4, .code yX4_paid cX4_paid 3 (some .int), .fieldLink RX4 10 "Queuefloat" "sums" "LQueuefloat$Sums;", .fieldLink RX4 101 "Queuefloat$Sums" "netPaid" "[I", .methodLink RX4 61 yX4_requireBank, .static yX4_requireBank, .code yX4_requireBank cX4_requireBank 1 none, .classLink RX4 140 "java/lang/IndexOutOfBoundsException", .initialized "java/lang/IndexOutOfBoundsException", .methodLink RX4 98 yX4_pairOf, .static yX4_pairOf, .code yX4_pairOf cX4_pairOf 2 (some .int)] ++ wsX40 ++ wsX30 ++ (vx_atS RX4 144 "java/lang/IndexOutOfBoundsException" ["java/lang/RuntimeException", "java/lang/Exception"]).filter goodWord)
def wsL_pay_r1 : List Cond := [Cond.classLink RL 13 "java/lang/IndexOutOfBoundsException", Cond.classLink RL 15 "java/lang/IllegalArgumentException", Cond.classLink RL 17 "java/lang/IllegalStateException", Cond.methodLink RL 43 yX4_pay, Cond.instanceMethod yX4_pay, Cond.selects RX4 yX4_pay yX4_pay, Cond.initialized RX4, Cond.code yX4_pay cX4_pay 5 (some .int), Cond.classLink RX4 77 "java/lang/IllegalStateException", Cond.initialized "java/lang/IllegalStateException", Cond.constant RX4 110 (100000), Cond.fieldLink RX4 29 "Queuefloat" "payments" "LQueuefloat$Payments;", Cond.fieldLink RX4 113 "Queuefloat$Payments" "made" "I", Cond.methodLink RX4 61 yX4_requireBank, Cond.static yX4_requireBank, Cond.code yX4_requireBank cX4_requireBank 1 none, Cond.classLink RX4 140 "java/lang/IndexOutOfBoundsException", Cond.initialized "java/lang/IndexOutOfBoundsException", Cond.methodLink RX4 94 yX4_requireTwo, Cond.static yX4_requireTwo, Cond.code yX4_requireTwo cX4_requireTwo 2 none, Cond.classLink RX4 197 "java/lang/IllegalArgumentException", Cond.initialized "java/lang/IllegalArgumentException", Cond.methodLink RX4 66 yX4_requireRange]
def wsL_pay_r2 : List Cond := [Cond.static yX4_requireRange, Cond.code yX4_requireRange cX4_requireRange 3 none, Cond.methodLink RX4 70 yX4_requireOpen, Cond.instanceMethod yX4_requireOpen, Cond.selects RX4 yX4_requireOpen yX4_requireOpen, Cond.code yX4_requireOpen cX4_requireOpen 2 none, Cond.fieldLink RX4 40 "Queuefloat" "closed" "[Z", Cond.methodLink RX4 118 yX2_enter, Cond.instanceMethod yX2_enter, Cond.selects RX2 yX2_enter yX2_enter, Cond.initialized RX2, Cond.code yX2_enter cX2_enter 7 (some .int), Cond.fieldLink RX2 31 "Queuefloat$Payments" "made" "I", Cond.fieldLink RX2 9 "Queuefloat$Payments" "from" "[I", Cond.fieldLink RX2 15 "Queuefloat$Payments" "to" "[I", Cond.fieldLink RX2 18 "Queuefloat$Payments" "amount" "[I", Cond.fieldLink RX2 21 "Queuefloat$Payments" "priorityOf" "[I", Cond.fieldLink RX2 24 "Queuefloat$Payments" "waits" "[Z", Cond.fieldLink RX2 28 "Queuefloat$Payments" "byPriority" "[I"]
def wsL_pay : List Cond := .codeWith yL_pay cL_pay 7 (some .int) [(0, 14, 17, 13), (0, 14, 21, 15), (0, 14, 25, 17)] :: ((wsL_pay_r1 ++ wsL_pay_r2) ++ wsX40 ++ wsX20 ++ (vx_atS RX4 81 "java/lang/IllegalStateException" ["java/lang/RuntimeException", "java/lang/Exception"]).filter goodWord ++ (vx_atS RX4 144 "java/lang/IndexOutOfBoundsException" ["java/lang/RuntimeException", "java/lang/Exception"]).filter goodWord ++ (vx_atS RX4 201 "java/lang/IllegalArgumentException" ["java/lang/RuntimeException", "java/lang/Exception"]).filter goodWord)
def wsL_drop_r1 : List Cond := [Cond.classLink RL 13 "java/lang/IndexOutOfBoundsException", Cond.classLink RL 17 "java/lang/IllegalStateException", Cond.methodLink RL 47 yX4_drop, Cond.instanceMethod yX4_drop, Cond.selects RX4 yX4_drop yX4_drop, Cond.initialized RX4, Cond.code yX4_drop cX4_drop 2 (some .int), Cond.classLink RX4 77 "java/lang/IllegalStateException", Cond.initialized "java/lang/IllegalStateException", Cond.fieldLink RX4 29 "Queuefloat" "payments" "LQueuefloat$Payments;", Cond.fieldLink RX4 125 "Queuefloat$Payments" "waits" "[Z", Cond.methodLink RX4 122 yX4_requirePayment, Cond.instanceMethod yX4_requirePayment, Cond.selects RX4 yX4_requirePayment yX4_requirePayment, Cond.code yX4_requirePayment cX4_requirePayment 2 none, Cond.classLink RX4 140 "java/lang/IndexOutOfBoundsException", Cond.initialized "java/lang/IndexOutOfBoundsException", Cond.fieldLink RX4 113 "Queuefloat$Payments" "made" "I", Cond.methodLink RX4 130 yX2_countWaiting, Cond.instanceMethod yX2_countWaiting, Cond.selects RX2 yX2_countWaiting yX2_countWaiting, Cond.initialized RX2, Cond.code yX2_countWaiting cX2_countWaiting 3 (some .int), Cond.fieldLink RX2 31 "Queuefloat$Payments" "made" "I"]
def wsL_drop_r2 : List Cond := [Cond.fieldLink RX2 24 "Queuefloat$Payments" "waits" "[Z"]
def wsL_drop : List Cond := .codeWith yL_drop cL_drop 4 (some .int) [(0, 9, 12, 13), (0, 9, 15, 17)] :: ((wsL_drop_r1 ++ wsL_drop_r2) ++ wsX40 ++ wsX20 ++ (vx_atS RX4 81 "java/lang/IllegalStateException" ["java/lang/RuntimeException", "java/lang/Exception"]).filter goodWord ++ (vx_atS RX4 144 "java/lang/IndexOutOfBoundsException" ["java/lang/RuntimeException", "java/lang/Exception"]).filter goodWord)
def wsL_setSmall : List Cond := .codeWith yL_setSmall cL_setSmall 4 (some .int) [(0, 9, 12, 15)] :: ([.classLink RL 15 "java/lang/IllegalArgumentException", .methodLink RL 50 yX4_setSmall, .instanceMethod yX4_setSmall, .selects RX4 yX4_setSmall yX4_setSmall, .initialized RX4, .code yX4_setSmall cX4_setSmall 3 (some .int), .constant RX4 110 (100000), .fieldLink RX4 51 "Queuefloat" "small" "I", .methodLink RX4 66 yX4_requireRange, .static yX4_requireRange, .code yX4_requireRange cX4_requireRange 3 none, .classLink RX4 197 "java/lang/IllegalArgumentException", .initialized "java/lang/IllegalArgumentException"] ++ wsX40 ++ (vx_atS RX4 201 "java/lang/IllegalArgumentException" ["java/lang/RuntimeException", "java/lang/Exception"]).filter goodWord)
def wsL_queued_r1 : List Cond := [Cond.classLink RL 13 "java/lang/IndexOutOfBoundsException", Cond.methodLink RL 53 yX4_queued, Cond.instanceMethod yX4_queued, Cond.selects RX4 yX4_queued yX4_queued, Cond.initialized RX4, Cond.code yX4_queued cX4_queued 3 (some .int), Cond.classLink RX4 140 "java/lang/IndexOutOfBoundsException", Cond.initialized "java/lang/IndexOutOfBoundsException", Cond.fieldLink RX4 29 "Queuefloat" "payments" "LQueuefloat$Payments;", Cond.methodLink RX4 61 yX4_requireBank, Cond.static yX4_requireBank, Cond.code yX4_requireBank cX4_requireBank 1 none, Cond.methodLink RX4 145 yX2_inQueue, Cond.instanceMethod yX2_inQueue, Cond.selects RX2 yX2_inQueue yX2_inQueue, Cond.initialized RX2, Cond.code yX2_inQueue cX2_inQueue 5 (some .int), Cond.fieldLink RX2 31 "Queuefloat$Payments" "made" "I", Cond.fieldLink RX2 28 "Queuefloat$Payments" "byPriority" "[I", Cond.methodLink RX2 44 yX2_waitsAt, Cond.instanceMethod yX2_waitsAt, Cond.selects RX2 yX2_waitsAt yX2_waitsAt, Cond.code yX2_waitsAt cX2_waitsAt 3 (some .boolean), Cond.fieldLink RX2 24 "Queuefloat$Payments" "waits" "[Z"]
def wsL_queued_r2 : List Cond := [Cond.fieldLink RX2 9 "Queuefloat$Payments" "from" "[I"]
def wsL_queued : List Cond := .codeWith yL_queued cL_queued 5 (some .int) [(0, 10, 13, 13)] :: ((wsL_queued_r1 ++ wsL_queued_r2) ++ wsX40 ++ wsX20 ++ (vx_atS RX4 144 "java/lang/IndexOutOfBoundsException" ["java/lang/RuntimeException", "java/lang/Exception"]).filter goodWord)
def wsL_why_r1 : List Cond := [Cond.classLink RL 13 "java/lang/IndexOutOfBoundsException", Cond.methodLink RL 56 yX4_why, Cond.instanceMethod yX4_why, Cond.selects RX4 yX4_why yX4_why, Cond.initialized RX4, Cond.code yX4_why cX4_why 2 (some .int), Cond.methodLink RX4 122 yX4_requirePayment, Cond.instanceMethod yX4_requirePayment, Cond.selects RX4 yX4_requirePayment yX4_requirePayment, Cond.code yX4_requirePayment cX4_requirePayment 2 none, Cond.classLink RX4 140 "java/lang/IndexOutOfBoundsException", Cond.initialized "java/lang/IndexOutOfBoundsException", Cond.fieldLink RX4 29 "Queuefloat" "payments" "LQueuefloat$Payments;", Cond.fieldLink RX4 113 "Queuefloat$Payments" "made" "I", Cond.methodLink RX4 148 yX4_obstacle, Cond.instanceMethod yX4_obstacle, Cond.selects RX4 yX4_obstacle yX4_obstacle, Cond.code yX4_obstacle cX4_obstacle 5 (some .int), Cond.fieldLink RX4 125 "Queuefloat$Payments" "waits" "[Z", Cond.fieldLink RX4 217 "Queuefloat$Payments" "from" "[I", Cond.fieldLink RX4 220 "Queuefloat$Payments" "amount" "[I", Cond.fieldLink RX4 10 "Queuefloat" "sums" "LQueuefloat$Sums;", Cond.fieldLink RX4 73 "Queuefloat$Sums" "accountOf" "[I", Cond.fieldLink RX4 22 "Queuefloat" "limits" "LQueuefloat$Limits;"]
def wsL_why_r2 : List Cond := [Cond.fieldLink RX4 91 "Queuefloat$Limits" "floorOf" "[I", Cond.fieldLink RX4 223 "Queuefloat$Payments" "to" "[I", Cond.fieldLink RX4 101 "Queuefloat$Sums" "netPaid" "[I", Cond.fieldLink RX4 107 "Queuefloat$Limits" "boundOf" "[I", Cond.methodLink RX4 98 yX4_pairOf, Cond.static yX4_pairOf, Cond.code yX4_pairOf cX4_pairOf 2 (some .int)]
def wsL_why : List Cond := .codeWith yL_why cL_why 4 (some .int) [(0, 9, 12, 13)] :: ((wsL_why_r1 ++ wsL_why_r2) ++ wsX40 ++ wsX20 ++ wsX30 ++ wsX00 ++ (vx_atS RX4 144 "java/lang/IndexOutOfBoundsException" ["java/lang/RuntimeException", "java/lang/Exception"]).filter goodWord)
def wsL_canAny_r1 : List Cond := [Cond.classLink RL 17 "java/lang/IllegalStateException", Cond.methodLink RL 59 yX4_canAny, Cond.instanceMethod yX4_canAny, Cond.selects RX4 yX4_canAny yX4_canAny, Cond.initialized RX4, Cond.code yX4_canAny cX4_canAny 3 (some .boolean), Cond.classLink RX4 77 "java/lang/IllegalStateException", Cond.initialized "java/lang/IllegalStateException", Cond.fieldLink RX4 29 "Queuefloat" "payments" "LQueuefloat$Payments;", Cond.methodLink RX4 130 yX2_countWaiting, Cond.instanceMethod yX2_countWaiting, Cond.selects RX2 yX2_countWaiting yX2_countWaiting, Cond.initialized RX2, Cond.code yX2_countWaiting cX2_countWaiting 3 (some .int), Cond.fieldLink RX2 31 "Queuefloat$Payments" "made" "I", Cond.fieldLink RX2 24 "Queuefloat$Payments" "waits" "[Z", Cond.methodLink RX4 154 yX4_listWaiting, Cond.instanceMethod yX4_listWaiting, Cond.selects RX4 yX4_listWaiting yX4_listWaiting, Cond.code yX4_listWaiting cX4_listWaiting 3 (some .int), Cond.fieldLink RX4 113 "Queuefloat$Payments" "made" "I", Cond.fieldLink RX4 125 "Queuefloat$Payments" "waits" "[Z", Cond.fieldLink RX4 48 "Queuefloat" "candidates" "[I", Cond.methodLink RX4 157 yX4_canGoTogether]
def wsL_canAny_r2 : List Cond := [Cond.instanceMethod yX4_canGoTogether, Cond.selects RX4 yX4_canGoTogether yX4_canGoTogether, Cond.code yX4_canGoTogether cX4_canGoTogether 4 (some .boolean), Cond.fieldLink RX4 16 "Queuefloat" "trial" "LQueuefloat$Sums;", Cond.fieldLink RX4 10 "Queuefloat" "sums" "LQueuefloat$Sums;", Cond.fieldLink RX4 22 "Queuefloat" "limits" "LQueuefloat$Limits;", Cond.methodLink RX4 253 yX3_copy, Cond.instanceMethod yX3_copy, Cond.selects RX3 yX3_copy yX3_copy, Cond.initialized RX3, Cond.code yX3_copy cX3_copy 2 none, Cond.fieldLink RX3 9 "Queuefloat$Sums" "accountOf" "[I", Cond.methodLink RX3 22 arraycopyName, Cond.native arraycopyName, Cond.static arraycopyName, Cond.initialized "java/lang/System", Cond.fieldLink RX3 15 "Queuefloat$Sums" "netPaid" "[I", Cond.methodLink RX4 250 yX4_isIn, Cond.static yX4_isIn, Cond.code yX4_isIn cX4_isIn 2 (some .boolean), Cond.methodLink RX4 226 yX2_apply, Cond.instanceMethod yX2_apply, Cond.selects RX2 yX2_apply yX2_apply, Cond.code yX2_apply cX2_apply 3 none]
def wsL_canAny_r3 : List Cond := [Cond.fieldLink RX2 9 "Queuefloat$Payments" "from" "[I", Cond.fieldLink RX2 15 "Queuefloat$Payments" "to" "[I", Cond.fieldLink RX2 18 "Queuefloat$Payments" "amount" "[I", Cond.methodLink RX2 35 yX3_move, Cond.instanceMethod yX3_move, Cond.selects RX3 yX3_move yX3_move, Cond.code yX3_move cX3_move 4 none, Cond.methodLink RX2 41 yX3_notePaid, Cond.instanceMethod yX3_notePaid, Cond.selects RX3 yX3_notePaid yX3_notePaid, Cond.code yX3_notePaid cX3_notePaid 4 none, Cond.static yX4_pairOf, Cond.code yX4_pairOf cX4_pairOf 2 (some .int), Cond.methodLink RX4 257 yX0_allow, Cond.instanceMethod yX0_allow, Cond.selects RX0 yX0_allow yX0_allow, Cond.initialized RX0, Cond.code yX0_allow cX0_allow 3 (some .boolean), Cond.fieldLink RX0 19 "Queuefloat$Sums" "accountOf" "[I", Cond.fieldLink RX0 9 "Queuefloat$Limits" "floorOf" "[I", Cond.fieldLink RX0 24 "Queuefloat$Sums" "netPaid" "[I", Cond.fieldLink RX0 15 "Queuefloat$Limits" "boundOf" "[I"]
def wsL_canAny : List Cond := .codeWith yL_canAny cL_canAny 3 (some .int) [(0, 15, 18, 17)] :: ((wsL_canAny_r1 ++ (wsL_canAny_r2 ++ wsL_canAny_r3)) ++ wsX40 ++ wsX20 ++ wsX30 ++ wsX00 ++ (vx_atS RX4 81 "java/lang/IllegalStateException" ["java/lang/RuntimeException", "java/lang/Exception"]).filter goodWord)
def wsL_setPrice : List Cond := .codeWith yL_setPrice cL_setPrice 4 (some .int) [(0, 6, 9, 15)] :: ([.classLink RL 15 "java/lang/IllegalArgumentException", .methodLink RL 63 yX4_setPrice, .instanceMethod yX4_setPrice, .selects RX4 yX4_setPrice yX4_setPrice, .initialized RX4, .code yX4_setPrice cX4_setPrice 3 none, .fieldLink RX4 55 "Queuefloat" "paperPrice" "I", .fieldLink RX4 58 "Queuefloat" "paperCut" "I", .methodLink RX4 66 yX4_requireRange, .static yX4_requireRange, .code yX4_requireRange cX4_requireRange 3 none, .classLink RX4 197 "java/lang/IllegalArgumentException", .initialized "java/lang/IllegalArgumentException"] ++ wsX40 ++ (vx_atS RX4 201 "java/lang/IllegalArgumentException" ["java/lang/RuntimeException", "java/lang/Exception"]).filter goodWord)
def wsL_lend_r1 : List Cond := [Cond.classLink RL 13 "java/lang/IndexOutOfBoundsException", Cond.classLink RL 15 "java/lang/IllegalArgumentException", Cond.classLink RL 17 "java/lang/IllegalStateException", Cond.methodLink RL 67 yX4_lend, Cond.instanceMethod yX4_lend, Cond.selects RX4 yX4_lend yX4_lend, Cond.initialized RX4, Cond.code yX4_lend cX4_lend 6 (some .int), Cond.constant RX4 110 (100000), Cond.fieldLink RX4 10 "Queuefloat" "sums" "LQueuefloat$Sums;", Cond.fieldLink RX4 44 "Queuefloat" "papersOf" "[I", Cond.fieldLink RX4 36 "Queuefloat" "market" "LQueuefloat$Loans;", Cond.methodLink RX4 61 yX4_requireBank, Cond.static yX4_requireBank, Cond.code yX4_requireBank cX4_requireBank 1 none, Cond.classLink RX4 140 "java/lang/IndexOutOfBoundsException", Cond.initialized "java/lang/IndexOutOfBoundsException", Cond.methodLink RX4 94 yX4_requireTwo, Cond.static yX4_requireTwo, Cond.code yX4_requireTwo cX4_requireTwo 2 none, Cond.classLink RX4 197 "java/lang/IllegalArgumentException", Cond.initialized "java/lang/IllegalArgumentException", Cond.methodLink RX4 66 yX4_requireRange, Cond.static yX4_requireRange]
def wsL_lend_r2 : List Cond := [Cond.code yX4_requireRange cX4_requireRange 3 none, Cond.methodLink RX4 70 yX4_requireOpen, Cond.instanceMethod yX4_requireOpen, Cond.selects RX4 yX4_requireOpen yX4_requireOpen, Cond.code yX4_requireOpen cX4_requireOpen 2 none, Cond.classLink RX4 77 "java/lang/IllegalStateException", Cond.initialized "java/lang/IllegalStateException", Cond.fieldLink RX4 40 "Queuefloat" "closed" "[Z", Cond.methodLink RX4 161 yX4_requireLoanable, Cond.instanceMethod yX4_requireLoanable, Cond.selects RX4 yX4_requireLoanable yX4_requireLoanable, Cond.code yX4_requireLoanable cX4_requireLoanable 5 none, Cond.fieldLink RX4 169 "Queuefloat$Loans" "made" "I", Cond.fieldLink RX4 73 "Queuefloat$Sums" "accountOf" "[I", Cond.fieldLink RX4 22 "Queuefloat" "limits" "LQueuefloat$Limits;", Cond.fieldLink RX4 91 "Queuefloat$Limits" "floorOf" "[I", Cond.methodLink RX4 210 yX4_pledgeWorth, Cond.instanceMethod yX4_pledgeWorth, Cond.selects RX4 yX4_pledgeWorth yX4_pledgeWorth, Cond.code yX4_pledgeWorth cX4_pledgeWorth 2 (some .int), Cond.fieldLink RX4 55 "Queuefloat" "paperPrice" "I", Cond.fieldLink RX4 58 "Queuefloat" "paperCut" "I", Cond.methodLink RX4 165 yX3_move, Cond.instanceMethod yX3_move]
def wsL_lend_r3 : List Cond := [Cond.selects RX3 yX3_move yX3_move, Cond.initialized RX3, Cond.code yX3_move cX3_move 4 none, Cond.fieldLink RX3 9 "Queuefloat$Sums" "accountOf" "[I", Cond.methodLink RX4 168 yX1_enter, Cond.instanceMethod yX1_enter, Cond.selects RX1 yX1_enter yX1_enter, Cond.initialized RX1, Cond.code yX1_enter cX1_enter 6 (some .int), Cond.fieldLink RX1 24 "Queuefloat$Loans" "made" "I", Cond.fieldLink RX1 9 "Queuefloat$Loans" "lender" "[I", Cond.fieldLink RX1 15 "Queuefloat$Loans" "borrower" "[I", Cond.fieldLink RX1 18 "Queuefloat$Loans" "due" "[I", Cond.fieldLink RX1 21 "Queuefloat$Loans" "pledge" "[I"]
def wsL_lend : List Cond := .codeWith yL_lend cL_lend 8 (some .int) [(0, 16, 19, 13), (0, 16, 23, 15), (0, 16, 27, 17)] :: ((wsL_lend_r1 ++ (wsL_lend_r2 ++ wsL_lend_r3)) ++ wsX40 ++ wsX10 ++ wsX30 ++ wsX00 ++ (vx_atS RX4 144 "java/lang/IndexOutOfBoundsException" ["java/lang/RuntimeException", "java/lang/Exception"]).filter goodWord ++ (vx_atS RX4 201 "java/lang/IllegalArgumentException" ["java/lang/RuntimeException", "java/lang/Exception"]).filter goodWord ++ (vx_atS RX4 81 "java/lang/IllegalStateException" ["java/lang/RuntimeException", "java/lang/Exception"]).filter goodWord)
def wsL_law0_r1 : List Cond := [Cond.classLink RL 8 RX4, Cond.instantiable RX4 12, Cond.initialized RX4, Cond.classLink RL 72 RX5, Cond.instantiable RX5 25, Cond.initialized RX5, Cond.arrayClass .long, Cond.methodLink RL 71 yX4_init, Cond.instanceMethod yX4_init, Cond.code yX4_init cX4_init 1 none, Cond.methodLink RX4 1 objectInit, Cond.instanceMethod objectInit, Cond.code objectInit ⟨#[0xb1]⟩ 1 none, Cond.classLink RX4 7 RX3, Cond.instantiable RX3 2, Cond.initialized RX3, Cond.fieldLink RX4 10 "Queuefloat" "sums" "LQueuefloat$Sums;", Cond.fieldLink RX4 16 "Queuefloat" "trial" "LQueuefloat$Sums;", Cond.classLink RX4 19 RX0, Cond.instantiable RX0 2, Cond.initialized RX0, Cond.fieldLink RX4 22 "Queuefloat" "limits" "LQueuefloat$Limits;", Cond.classLink RX4 26 RX2, Cond.instantiable RX2 7]
def wsL_law0_r2 : List Cond := [Cond.initialized RX2, Cond.fieldLink RX4 29 "Queuefloat" "payments" "LQueuefloat$Payments;", Cond.classLink RX4 33 RX1, Cond.instantiable RX1 6, Cond.initialized RX1, Cond.fieldLink RX4 36 "Queuefloat" "market" "LQueuefloat$Loans;", Cond.arrayClass .boolean, Cond.fieldLink RX4 40 "Queuefloat" "closed" "[Z", Cond.arrayClass .int, Cond.fieldLink RX4 44 "Queuefloat" "papersOf" "[I", Cond.fieldLink RX4 48 "Queuefloat" "candidates" "[I", Cond.fieldLink RX4 51 "Queuefloat" "small" "I", Cond.fieldLink RX4 55 "Queuefloat" "paperPrice" "I", Cond.fieldLink RX4 58 "Queuefloat" "paperCut" "I", Cond.methodLink RX4 9 yX3_init, Cond.instanceMethod yX3_init, Cond.code yX3_init cX3_init 1 none, Cond.methodLink RX3 3 objectInit, Cond.fieldLink RX3 9 "Queuefloat$Sums" "accountOf" "[I", Cond.fieldLink RX3 15 "Queuefloat$Sums" "netPaid" "[I", Cond.methodLink RX4 21 yX0_init, Cond.instanceMethod yX0_init, Cond.code yX0_init cX0_init 2 none, Cond.methodLink RX0 3 objectInit]
def wsL_law0_r3 : List Cond := [Cond.fieldLink RX0 9 "Queuefloat$Limits" "floorOf" "[I", Cond.fieldLink RX0 15 "Queuefloat$Limits" "boundOf" "[I", Cond.constant RX0 18 (1000000), Cond.methodLink RX4 28 yX2_init, Cond.instanceMethod yX2_init, Cond.code yX2_init cX2_init 1 none, Cond.methodLink RX2 3 objectInit, Cond.fieldLink RX2 9 "Queuefloat$Payments" "from" "[I", Cond.fieldLink RX2 15 "Queuefloat$Payments" "to" "[I", Cond.fieldLink RX2 18 "Queuefloat$Payments" "amount" "[I", Cond.fieldLink RX2 21 "Queuefloat$Payments" "priorityOf" "[I", Cond.fieldLink RX2 24 "Queuefloat$Payments" "waits" "[Z", Cond.fieldLink RX2 28 "Queuefloat$Payments" "byPriority" "[I", Cond.methodLink RX4 35 yX1_init, Cond.instanceMethod yX1_init, Cond.code yX1_init cX1_init 1 none, Cond.methodLink RX1 3 objectInit, Cond.fieldLink RX1 9 "Queuefloat$Loans" "lender" "[I", Cond.fieldLink RX1 15 "Queuefloat$Loans" "borrower" "[I", Cond.fieldLink RX1 18 "Queuefloat$Loans" "due" "[I", Cond.fieldLink RX1 21 "Queuefloat$Loans" "pledge" "[I", Cond.methodLink RL 74 yX5_init, Cond.instanceMethod yX5_init, Cond.code yX5_init cX5_init 2 none]
def wsL_law0_r4 : List Cond := [Cond.methodLink RX5 1 objectInit, Cond.fieldLink RX5 7 "QueuefloatModel" "account" "[I", Cond.fieldLink RX5 13 "QueuefloatModel" "floor" "[I", Cond.fieldLink RX5 16 "QueuefloatModel" "papers" "[I", Cond.fieldLink RX5 19 "QueuefloatModel" "isClosed" "[Z", Cond.fieldLink RX5 23 "QueuefloatModel" "paid" "[I", Cond.fieldLink RX5 26 "QueuefloatModel" "bound" "[I", Cond.fieldLink RX5 29 "QueuefloatModel" "from" "[I", Cond.fieldLink RX5 32 "QueuefloatModel" "to" "[I", Cond.fieldLink RX5 35 "QueuefloatModel" "amount" "[I", Cond.fieldLink RX5 38 "QueuefloatModel" "priority" "[I", Cond.fieldLink RX5 41 "QueuefloatModel" "isWaiting" "[Z", Cond.fieldLink RX5 44 "QueuefloatModel" "small" "I", Cond.fieldLink RX5 48 "QueuefloatModel" "first" "[I", Cond.fieldLink RX5 51 "QueuefloatModel" "lender" "[I", Cond.fieldLink RX5 54 "QueuefloatModel" "borrower" "[I", Cond.fieldLink RX5 57 "QueuefloatModel" "lent" "[I", Cond.fieldLink RX5 60 "QueuefloatModel" "rate" "[I", Cond.fieldLink RX5 63 "QueuefloatModel" "pledged" "[I", Cond.fieldLink RX5 66 "QueuefloatModel" "isOpen" "[Z", Cond.fieldLink RX5 69 "QueuefloatModel" "price" "I", Cond.fieldLink RX5 72 "QueuefloatModel" "cut" "I", Cond.constant RX5 75 (1000000), Cond.methodLink RL 75 yL_fund]
def wsL_law0_r5 : List Cond := [Cond.static yL_fund, Cond.initialized RL, Cond.codeWith yL_fund cL_fund 5 (some .int) [(0, 10, 13, 13), (0, 10, 17, 15), (0, 10, 21, 17)], Cond.classLink RL 13 "java/lang/IndexOutOfBoundsException", Cond.classLink RL 15 "java/lang/IllegalArgumentException", Cond.classLink RL 17 "java/lang/IllegalStateException", Cond.methodLink RL 7 yX4_fund, Cond.instanceMethod yX4_fund, Cond.selects RX4 yX4_fund yX4_fund, Cond.code yX4_fund cX4_fund 3 (some .int), Cond.classLink RX4 77 "java/lang/IllegalStateException", Cond.initialized "java/lang/IllegalStateException", Cond.constant RX4 65 (1000000), Cond.fieldLink RX4 73 "Queuefloat$Sums" "accountOf" "[I", Cond.constant RX4 76 (100000000), Cond.methodLink RX4 61 yX4_requireBank, Cond.static yX4_requireBank, Cond.code yX4_requireBank cX4_requireBank 1 none, Cond.classLink RX4 140 "java/lang/IndexOutOfBoundsException", Cond.initialized "java/lang/IndexOutOfBoundsException", Cond.methodLink RX4 66 yX4_requireRange, Cond.static yX4_requireRange, Cond.code yX4_requireRange cX4_requireRange 3 none, Cond.classLink RX4 197 "java/lang/IllegalArgumentException"]
def wsL_law0_r6 : List Cond := [Cond.initialized "java/lang/IllegalArgumentException", Cond.methodLink RX4 70 yX4_requireOpen, Cond.instanceMethod yX4_requireOpen, Cond.selects RX4 yX4_requireOpen yX4_requireOpen, Cond.code yX4_requireOpen cX4_requireOpen 2 none, Cond.methodLink RL 80 yX5_fund, Cond.instanceMethod yX5_fund, Cond.selects RX5 yX5_fund yX5_fund, Cond.code yX5_fund cX5_fund 3 (some .int), Cond.constant RX5 98 (100000000), Cond.methodLink RX5 82 yX5_isBank, Cond.static yX5_isBank, Cond.code yX5_isBank cX5_isBank 1 (some .boolean), Cond.methodLink RX5 86 yX5_asks, Cond.instanceMethod yX5_asks, Cond.selects RX5 yX5_asks yX5_asks, Cond.code yX5_asks cX5_asks 2 (some .boolean), Cond.fieldLink RX5 76 "QueuefloatModel" "thrown" "I", Cond.methodLink RX5 90 yX5_in, Cond.static yX5_in, Cond.code yX5_in cX5_in 3 (some .boolean), Cond.methodLink RX5 94 yX5_fails, Cond.instanceMethod yX5_fails, Cond.selects RX5 yX5_fails yX5_fails]
def wsL_law0_r7 : List Cond := [Cond.code yX5_fails cX5_fails 2 (some .int), Cond.methodLink RL 81 yX5_thrown, Cond.instanceMethod yX5_thrown, Cond.selects RX5 yX5_thrown yX5_thrown, Cond.code yX5_thrown cX5_thrown 1 (some .int), Cond.methodLink RL 85 yL_setFloor, Cond.static yL_setFloor, Cond.codeWith yL_setFloor cL_setFloor 5 (some .int) [(0, 10, 13, 13), (0, 10, 17, 15)], Cond.methodLink RL 19 yX4_setFloor, Cond.instanceMethod yX4_setFloor, Cond.selects RX4 yX4_setFloor yX4_setFloor, Cond.code yX4_setFloor cX4_setFloor 4 (some .int), Cond.constant RX4 84 (-1000000), Cond.methodLink RX4 85 Lib.Math.min.name, Cond.static Lib.Math.min.name, Cond.initialized "java/lang/Math", Cond.code Lib.Math.min.name Lib.Math.min.code 2 (some .int), Cond.fieldLink RX4 91 "Queuefloat$Limits" "floorOf" "[I", Cond.methodLink RL 87 yX5_setFloor, Cond.instanceMethod yX5_setFloor, Cond.selects RX5 yX5_setFloor yX5_setFloor, Cond.code yX5_setFloor cX5_setFloor 4 (some .int), Cond.constant RX5 99 (-1000000), Cond.methodLink RL 88 yL_setBound]
def wsL_law0_r8 : List Cond := [Cond.static yL_setBound, Cond.codeWith yL_setBound cL_setBound 6 (some .int) [(0, 12, 15, 13), (0, 12, 19, 15)], Cond.methodLink RL 22 yX4_setBound, Cond.instanceMethod yX4_setBound, Cond.selects RX4 yX4_setBound yX4_setBound, Cond.code yX4_setBound cX4_setBound 6 (some .int), Cond.fieldLink RX4 101 "Queuefloat$Sums" "netPaid" "[I", Cond.methodLink RX4 104 Lib.Math.max.name, Cond.static Lib.Math.max.name, Cond.code Lib.Math.max.name Lib.Math.max.code 2 (some .int), Cond.fieldLink RX4 107 "Queuefloat$Limits" "boundOf" "[I", Cond.methodLink RX4 94 yX4_requireTwo, Cond.static yX4_requireTwo, Cond.code yX4_requireTwo cX4_requireTwo 2 none, Cond.methodLink RX4 98 yX4_pairOf, Cond.static yX4_pairOf, Cond.code yX4_pairOf cX4_pairOf 2 (some .int), Cond.methodLink RL 91 yX5_setBound, Cond.instanceMethod yX5_setBound, Cond.selects RX5 yX5_setBound yX5_setBound, Cond.code yX5_setBound cX5_setBound 6 (some .int), Cond.methodLink RL 92 yL_givePapers, Cond.static yL_givePapers, Cond.codeWith yL_givePapers cL_givePapers 5 (some .int) [(0, 10, 13, 13), (0, 10, 17, 15), (0, 10, 21, 17)]]
def wsL_law0_r9 : List Cond := [Cond.methodLink RL 26 yX4_givePapers, Cond.instanceMethod yX4_givePapers, Cond.selects RX4 yX4_givePapers yX4_givePapers, Cond.code yX4_givePapers cX4_givePapers 3 (some .int), Cond.constant RX4 110 (100000), Cond.methodLink RL 94 yX5_givePapers, Cond.instanceMethod yX5_givePapers, Cond.selects RX5 yX5_givePapers yX5_givePapers, Cond.code yX5_givePapers cX5_givePapers 3 (some .int), Cond.constant RX5 100 (100000), Cond.methodLink RL 95 yL_account, Cond.static yL_account, Cond.codeWith yL_account cL_account 4 (some .int) [(0, 9, 12, 13)], Cond.methodLink RL 29 yX4_account, Cond.instanceMethod yX4_account, Cond.selects RX4 yX4_account yX4_account, Cond.code yX4_account cX4_account 2 (some .int), Cond.methodLink RL 98 yX5_account, Cond.instanceMethod yX5_account, Cond.selects RX5 yX5_account yX5_account, Cond.code yX5_account cX5_account 2 (some .int), Cond.methodLink RL 99 yL_papers, Cond.static yL_papers, Cond.codeWith yL_papers cL_papers 4 (some .int) [(0, 9, 12, 13)]]
def wsL_law0_r10 : List Cond := [Cond.methodLink RL 33 yX4_papers, Cond.instanceMethod yX4_papers, Cond.selects RX4 yX4_papers yX4_papers, Cond.code yX4_papers cX4_papers 2 (some .int), Cond.methodLink RL 101 yX5_papers, Cond.instanceMethod yX5_papers, Cond.selects RX5 yX5_papers yX5_papers, Cond.code yX5_papers cX5_papers 2 (some .int), Cond.methodLink RL 102 yL_isOpen, Cond.static yL_isOpen, Cond.codeWith yL_isOpen cL_isOpen 4 (some .int) [(0, 16, 19, 13)], Cond.methodLink RL 36 yX4_isOpen, Cond.instanceMethod yX4_isOpen, Cond.selects RX4 yX4_isOpen yX4_isOpen, Cond.code yX4_isOpen cX4_isOpen 2 (some .boolean), Cond.methodLink RL 104 yX5_isOpen, Cond.instanceMethod yX5_isOpen, Cond.selects RX5 yX5_isOpen yX5_isOpen, Cond.code yX5_isOpen cX5_isOpen 2 (some .boolean), Cond.methodLink RL 105 yL_paid, Cond.static yL_paid, Cond.codeWith yL_paid cL_paid 5 (some .int) [(0, 10, 13, 13)], Cond.methodLink RL 40 yX4_paid, Cond.instanceMethod yX4_paid]
def wsL_law0_r11 : List Cond := [Cond.selects RX4 yX4_paid yX4_paid, Cond.code yX4_paid cX4_paid 3 (some .int), Cond.methodLink RL 107 yX5_paid, Cond.instanceMethod yX5_paid, Cond.selects RX5 yX5_paid yX5_paid, Cond.code yX5_paid cX5_paid 3 (some .int), Cond.methodLink RL 108 yL_pay, Cond.static yL_pay, Cond.codeWith yL_pay cL_pay 7 (some .int) [(0, 14, 17, 13), (0, 14, 21, 15), (0, 14, 25, 17)], Cond.methodLink RL 43 yX4_pay, Cond.instanceMethod yX4_pay, Cond.selects RX4 yX4_pay yX4_pay, Cond.code yX4_pay cX4_pay 5 (some .int), Cond.fieldLink RX4 113 "Queuefloat$Payments" "made" "I", Cond.methodLink RX4 118 yX2_enter, Cond.instanceMethod yX2_enter, Cond.selects RX2 yX2_enter yX2_enter, Cond.code yX2_enter cX2_enter 7 (some .int), Cond.fieldLink RX2 31 "Queuefloat$Payments" "made" "I", Cond.methodLink RL 111 yX5_pay, Cond.instanceMethod yX5_pay, Cond.selects RX5 yX5_pay yX5_pay, Cond.code yX5_pay cX5_pay 5 (some .int), Cond.fieldLink RX5 79 "QueuefloatModel" "payments" "I"]
def wsL_law0_r12 : List Cond := [Cond.methodLink RL 112 yL_drop, Cond.static yL_drop, Cond.codeWith yL_drop cL_drop 4 (some .int) [(0, 9, 12, 13), (0, 9, 15, 17)], Cond.methodLink RL 47 yX4_drop, Cond.instanceMethod yX4_drop, Cond.selects RX4 yX4_drop yX4_drop, Cond.code yX4_drop cX4_drop 2 (some .int), Cond.fieldLink RX4 125 "Queuefloat$Payments" "waits" "[Z", Cond.methodLink RX4 122 yX4_requirePayment, Cond.instanceMethod yX4_requirePayment, Cond.selects RX4 yX4_requirePayment yX4_requirePayment, Cond.code yX4_requirePayment cX4_requirePayment 2 none, Cond.methodLink RX4 130 yX2_countWaiting, Cond.instanceMethod yX2_countWaiting, Cond.selects RX2 yX2_countWaiting yX2_countWaiting, Cond.code yX2_countWaiting cX2_countWaiting 3 (some .int), Cond.methodLink RL 114 yX5_drop, Cond.instanceMethod yX5_drop, Cond.selects RX5 yX5_drop yX5_drop, Cond.code yX5_drop cX5_drop 2 (some .int), Cond.methodLink RX5 101 yX5_isPayment, Cond.instanceMethod yX5_isPayment, Cond.selects RX5 yX5_isPayment yX5_isPayment, Cond.code yX5_isPayment cX5_isPayment 2 (some .boolean)]
def wsL_law0_r13 : List Cond := [Cond.methodLink RX5 104 yX5_waiting, Cond.instanceMethod yX5_waiting, Cond.selects RX5 yX5_waiting yX5_waiting, Cond.code yX5_waiting cX5_waiting 3 (some .int), Cond.methodLink RL 115 yL_setSmall, Cond.static yL_setSmall, Cond.codeWith yL_setSmall cL_setSmall 4 (some .int) [(0, 9, 12, 15)], Cond.methodLink RL 50 yX4_setSmall, Cond.instanceMethod yX4_setSmall, Cond.selects RX4 yX4_setSmall yX4_setSmall, Cond.code yX4_setSmall cX4_setSmall 3 (some .int), Cond.methodLink RL 117 yX5_setSmall, Cond.instanceMethod yX5_setSmall, Cond.selects RX5 yX5_setSmall yX5_setSmall, Cond.code yX5_setSmall cX5_setSmall 3 (some .int), Cond.methodLink RL 118 yX4_run, Cond.instanceMethod yX4_run, Cond.selects RX4 yX4_run yX4_run, Cond.code yX4_run cX4_run 4 (some .int), Cond.methodLink RX4 134 yX4_goThroughBanks, Cond.instanceMethod yX4_goThroughBanks, Cond.selects RX4 yX4_goThroughBanks yX4_goThroughBanks, Cond.code yX4_goThroughBanks cX4_goThroughBanks 4 (some .int), Cond.methodLink RX4 230 yX4_nextToGo]
def wsL_law0_r14 : List Cond := [Cond.instanceMethod yX4_nextToGo, Cond.selects RX4 yX4_nextToGo yX4_nextToGo, Cond.code yX4_nextToGo cX4_nextToGo 3 (some .int), Cond.methodLink RX4 145 yX2_inQueue, Cond.instanceMethod yX2_inQueue, Cond.selects RX2 yX2_inQueue yX2_inQueue, Cond.code yX2_inQueue cX2_inQueue 5 (some .int), Cond.methodLink RX2 44 yX2_waitsAt, Cond.instanceMethod yX2_waitsAt, Cond.selects RX2 yX2_waitsAt yX2_waitsAt, Cond.code yX2_waitsAt cX2_waitsAt 3 (some .boolean), Cond.methodLink RX4 148 yX4_obstacle, Cond.instanceMethod yX4_obstacle, Cond.selects RX4 yX4_obstacle yX4_obstacle, Cond.code yX4_obstacle cX4_obstacle 5 (some .int), Cond.fieldLink RX4 217 "Queuefloat$Payments" "from" "[I", Cond.fieldLink RX4 220 "Queuefloat$Payments" "amount" "[I", Cond.fieldLink RX4 223 "Queuefloat$Payments" "to" "[I", Cond.methodLink RX4 236 yX4_firstSmallFree, Cond.instanceMethod yX4_firstSmallFree, Cond.selects RX4 yX4_firstSmallFree yX4_firstSmallFree, Cond.code yX4_firstSmallFree cX4_firstSmallFree 4 (some .int), Cond.fieldLink RX4 239 "Queuefloat$Payments" "byPriority" "[I", Cond.methodLink RX4 242 yX2_waitsAt]
def wsL_law0_r15 : List Cond := [Cond.methodLink RX4 233 yX4_send, Cond.instanceMethod yX4_send, Cond.selects RX4 yX4_send yX4_send, Cond.code yX4_send cX4_send 2 none, Cond.methodLink RX4 226 yX2_apply, Cond.instanceMethod yX2_apply, Cond.selects RX2 yX2_apply yX2_apply, Cond.code yX2_apply cX2_apply 3 none, Cond.methodLink RX2 35 yX3_move, Cond.instanceMethod yX3_move, Cond.selects RX3 yX3_move yX3_move, Cond.code yX3_move cX3_move 4 none, Cond.methodLink RX2 41 yX3_notePaid, Cond.instanceMethod yX3_notePaid, Cond.selects RX3 yX3_notePaid yX3_notePaid, Cond.code yX3_notePaid cX3_notePaid 4 none, Cond.methodLink RX4 137 yX4_sendLargestSet, Cond.instanceMethod yX4_sendLargestSet, Cond.selects RX4 yX4_sendLargestSet yX4_sendLargestSet, Cond.code yX4_sendLargestSet cX4_sendLargestSet 3 (some .int), Cond.methodLink RX4 245 yJ6_bitCount_0f7a4, Cond.static yJ6_bitCount_0f7a4, Cond.initialized RJ6, Cond.code yJ6_bitCount_0f7a4 cJ6_bitCount_0f7a4 1 (some .int)]
def wsL_law0_r16 : List Cond := [Cond.constant RJ6 265 (1431655765), Cond.constant RJ6 266 (858993459), Cond.constant RJ6 267 (252645135), Cond.methodLink RX4 157 yX4_canGoTogether, Cond.instanceMethod yX4_canGoTogether, Cond.selects RX4 yX4_canGoTogether yX4_canGoTogether, Cond.code yX4_canGoTogether cX4_canGoTogether 4 (some .boolean), Cond.methodLink RX4 253 yX3_copy, Cond.instanceMethod yX3_copy, Cond.selects RX3 yX3_copy yX3_copy, Cond.code yX3_copy cX3_copy 2 none, Cond.methodLink RX3 22 arraycopyName, Cond.native arraycopyName, Cond.static arraycopyName, Cond.initialized "java/lang/System", Cond.methodLink RX4 250 yX4_isIn, Cond.static yX4_isIn, Cond.code yX4_isIn cX4_isIn 2 (some .boolean), Cond.methodLink RX4 257 yX0_allow, Cond.instanceMethod yX0_allow, Cond.selects RX0 yX0_allow yX0_allow, Cond.code yX0_allow cX0_allow 3 (some .boolean), Cond.fieldLink RX0 19 "Queuefloat$Sums" "accountOf" "[I", Cond.fieldLink RX0 24 "Queuefloat$Sums" "netPaid" "[I"]
def wsL_law0_r17 : List Cond := [Cond.methodLink RL 121 yX5_run, Cond.instanceMethod yX5_run, Cond.selects RX5 yX5_run yX5_run, Cond.code yX5_run cX5_run 6 (some .int), Cond.methodLink RX5 133 yX5_next, Cond.instanceMethod yX5_next, Cond.selects RX5 yX5_next yX5_next, Cond.code yX5_next cX5_next 5 (some .int), Cond.methodLink RX5 112 yX5_at, Cond.instanceMethod yX5_at, Cond.selects RX5 yX5_at yX5_at, Cond.code yX5_at cX5_at 6 (some .int), Cond.methodLink RX5 116 yX5_reason, Cond.instanceMethod yX5_reason, Cond.selects RX5 yX5_reason yX5_reason, Cond.code yX5_reason cX5_reason 4 (some .int), Cond.methodLink RX5 126 yX5_goes, Cond.instanceMethod yX5_goes, Cond.selects RX5 yX5_goes yX5_goes, Cond.code yX5_goes cX5_goes 2 none, Cond.methodLink RX5 108 yX5_moves, Cond.instanceMethod yX5_moves, Cond.selects RX5 yX5_moves yX5_moves, Cond.code yX5_moves cX5_moves 4 none]
def wsL_law0_r18 : List Cond := [Cond.methodLink RX5 136 yX5_goTogether, Cond.instanceMethod yX5_goTogether, Cond.selects RX5 yX5_goTogether yX5_goTogether, Cond.code yX5_goTogether cX5_goTogether 8 (some .int), Cond.methodLink RX5 119 yX5_isSet, Cond.instanceMethod yX5_isSet, Cond.selects RX5 yX5_isSet yX5_isSet, Cond.code yX5_isSet cX5_isSet 4 (some .boolean), Cond.methodLink RX5 122 yX5_firsts, Cond.instanceMethod yX5_firsts, Cond.selects RX5 yX5_firsts yX5_firsts, Cond.code yX5_firsts cX5_firsts 3 none, Cond.methodLink RX5 129 yX5_isSound, Cond.instanceMethod yX5_isSound, Cond.selects RX5 yX5_isSound yX5_isSound, Cond.code yX5_isSound cX5_isSound 3 (some .boolean), Cond.methodLink RL 122 yL_queued, Cond.static yL_queued, Cond.codeWith yL_queued cL_queued 5 (some .int) [(0, 10, 13, 13)], Cond.methodLink RL 53 yX4_queued, Cond.instanceMethod yX4_queued, Cond.selects RX4 yX4_queued yX4_queued, Cond.code yX4_queued cX4_queued 3 (some .int), Cond.methodLink RL 124 yX5_queued]
def wsL_law0_r19 : List Cond := [Cond.instanceMethod yX5_queued, Cond.selects RX5 yX5_queued yX5_queued, Cond.code yX5_queued cX5_queued 3 (some .int), Cond.methodLink RL 125 yL_why, Cond.static yL_why, Cond.codeWith yL_why cL_why 4 (some .int) [(0, 9, 12, 13)], Cond.methodLink RL 56 yX4_why, Cond.instanceMethod yX4_why, Cond.selects RX4 yX4_why yX4_why, Cond.code yX4_why cX4_why 2 (some .int), Cond.methodLink RL 127 yX5_why, Cond.instanceMethod yX5_why, Cond.selects RX5 yX5_why yX5_why, Cond.code yX5_why cX5_why 2 (some .int), Cond.methodLink RL 128 yL_canAny, Cond.static yL_canAny, Cond.codeWith yL_canAny cL_canAny 3 (some .int) [(0, 15, 18, 17)], Cond.methodLink RL 59 yX4_canAny, Cond.instanceMethod yX4_canAny, Cond.selects RX4 yX4_canAny yX4_canAny, Cond.code yX4_canAny cX4_canAny 3 (some .boolean), Cond.methodLink RX4 154 yX4_listWaiting, Cond.instanceMethod yX4_listWaiting, Cond.selects RX4 yX4_listWaiting yX4_listWaiting]
def wsL_law0_r20 : List Cond := [Cond.code yX4_listWaiting cX4_listWaiting 3 (some .int), Cond.methodLink RL 131 yX5_canAny, Cond.instanceMethod yX5_canAny, Cond.selects RX5 yX5_canAny yX5_canAny, Cond.code yX5_canAny cX5_canAny 3 (some .boolean), Cond.methodLink RX5 139 yX5_moveSet, Cond.instanceMethod yX5_moveSet, Cond.selects RX5 yX5_moveSet yX5_moveSet, Cond.code yX5_moveSet cX5_moveSet 5 none, Cond.methodLink RL 132 yL_setPrice, Cond.static yL_setPrice, Cond.codeWith yL_setPrice cL_setPrice 4 (some .int) [(0, 6, 9, 15)], Cond.methodLink RL 63 yX4_setPrice, Cond.instanceMethod yX4_setPrice, Cond.selects RX4 yX4_setPrice yX4_setPrice, Cond.code yX4_setPrice cX4_setPrice 3 none, Cond.methodLink RL 135 yX5_setPrice, Cond.instanceMethod yX5_setPrice, Cond.selects RX5 yX5_setPrice yX5_setPrice, Cond.code yX5_setPrice cX5_setPrice 3 none, Cond.methodLink RL 136 yL_lend, Cond.static yL_lend, Cond.codeWith yL_lend cL_lend 8 (some .int) [(0, 16, 19, 13), (0, 16, 23, 15), (0, 16, 27, 17)], Cond.methodLink RL 67 yX4_lend]
def wsL_law0_r21 : List Cond := [Cond.instanceMethod yX4_lend, Cond.selects RX4 yX4_lend yX4_lend, Cond.code yX4_lend cX4_lend 6 (some .int), Cond.methodLink RX4 161 yX4_requireLoanable, Cond.instanceMethod yX4_requireLoanable, Cond.selects RX4 yX4_requireLoanable yX4_requireLoanable, Cond.code yX4_requireLoanable cX4_requireLoanable 5 none, Cond.fieldLink RX4 169 "Queuefloat$Loans" "made" "I", Cond.methodLink RX4 210 yX4_pledgeWorth, Cond.instanceMethod yX4_pledgeWorth, Cond.selects RX4 yX4_pledgeWorth yX4_pledgeWorth, Cond.code yX4_pledgeWorth cX4_pledgeWorth 2 (some .int), Cond.methodLink RX4 165 yX3_move, Cond.methodLink RX4 168 yX1_enter, Cond.instanceMethod yX1_enter, Cond.selects RX1 yX1_enter yX1_enter, Cond.code yX1_enter cX1_enter 6 (some .int), Cond.fieldLink RX1 24 "Queuefloat$Loans" "made" "I", Cond.methodLink RL 139 yX5_lend, Cond.instanceMethod yX5_lend, Cond.selects RX5 yX5_lend yX5_lend, Cond.code yX5_lend cX5_lend 8 (some .int), Cond.constantLong RX5 142 (1000), Cond.fieldLink RX5 144 "QueuefloatModel" "loans" "I"]
def wsL_law0_r22 : List Cond := [Cond.methodLink RL 140 yX4_loans, Cond.instanceMethod yX4_loans, Cond.selects RX4 yX4_loans yX4_loans, Cond.code yX4_loans cX4_loans 1 (some .int), Cond.fieldLink RX4 170 "Queuefloat$Loans" "ended" "I", Cond.methodLink RL 143 yX5_loans, Cond.instanceMethod yX5_loans, Cond.selects RX5 yX5_loans yX5_loans, Cond.code yX5_loans cX5_loans 3 (some .int), Cond.methodLink RL 144 yX4_morning, Cond.instanceMethod yX4_morning, Cond.selects RX4 yX4_morning yX4_morning, Cond.code yX4_morning cX4_morning 3 (some .int), Cond.fieldLink RX4 183 "Queuefloat$Loans" "borrower" "[I", Cond.methodLink RX4 173 yX3_forgetPaid, Cond.instanceMethod yX3_forgetPaid, Cond.selects RX3 yX3_forgetPaid yX3_forgetPaid, Cond.code yX3_forgetPaid cX3_forgetPaid 2 none, Cond.methodLink RX4 176 yX4_canRepay, Cond.instanceMethod yX4_canRepay, Cond.selects RX4 yX4_canRepay yX4_canRepay, Cond.code yX4_canRepay cX4_canRepay 3 (some .boolean), Cond.fieldLink RX4 261 "Queuefloat$Loans" "due" "[I", Cond.methodLink RX4 180 yX4_repay]
def wsL_law0_r23 : List Cond := [Cond.instanceMethod yX4_repay, Cond.selects RX4 yX4_repay yX4_repay, Cond.code yX4_repay cX4_repay 3 none, Cond.fieldLink RX4 264 "Queuefloat$Loans" "lender" "[I", Cond.fieldLink RX4 267 "Queuefloat$Loans" "pledge" "[I", Cond.methodLink RX4 186 yX4_close, Cond.instanceMethod yX4_close, Cond.selects RX4 yX4_close yX4_close, Cond.code yX4_close cX4_close 2 (some .int), Cond.methodLink RX4 270 yX2_dropAllOf, Cond.instanceMethod yX2_dropAllOf, Cond.selects RX2 yX2_dropAllOf yX2_dropAllOf, Cond.code yX2_dropAllOf cX2_dropAllOf 3 none, Cond.methodLink RX4 189 yX4_sellPledge, Cond.instanceMethod yX4_sellPledge, Cond.selects RX4 yX4_sellPledge yX4_sellPledge, Cond.code yX4_sellPledge cX4_sellPledge 4 none, Cond.fieldLink RX4 192 "Queuefloat" "proceeds" "I", Cond.methodLink RL 147 yX5_morning, Cond.instanceMethod yX5_morning, Cond.selects RX5 yX5_morning yX5_morning, Cond.code yX5_morning cX5_morning 3 (some .int), Cond.methodLink RX5 153 yX5_ends, Cond.instanceMethod yX5_ends]
def wsL_law0_r24 : List Cond := [Cond.selects RX5 yX5_ends yX5_ends, Cond.code yX5_ends cX5_ends 7 (some .boolean), Cond.fieldLink RX5 147 "QueuefloatModel" "sold" "I", Cond.methodLink RX5 150 yX5_closes, Cond.instanceMethod yX5_closes, Cond.selects RX5 yX5_closes yX5_closes, Cond.code yX5_closes cX5_closes 3 none, Cond.methodLink RL 148 yX4_sold, Cond.instanceMethod yX4_sold, Cond.selects RX4 yX4_sold yX4_sold, Cond.code yX4_sold cX4_sold 1 (some .int), Cond.methodLink RL 151 yX5_sold, Cond.instanceMethod yX5_sold, Cond.selects RX5 yX5_sold yX5_sold, Cond.code yX5_sold cX5_sold 1 (some .int)]
def wsL_law0 : List Cond := (wsL_law0_r1 ++ (wsL_law0_r2 ++ (wsL_law0_r3 ++ (wsL_law0_r4 ++ (wsL_law0_r5 ++ (wsL_law0_r6 ++ (wsL_law0_r7 ++ (wsL_law0_r8 ++ (wsL_law0_r9 ++ (wsL_law0_r10 ++ (wsL_law0_r11 ++ (wsL_law0_r12 ++ (wsL_law0_r13 ++ (wsL_law0_r14 ++ (wsL_law0_r15 ++ (wsL_law0_r16 ++ (wsL_law0_r17 ++ (wsL_law0_r18 ++ (wsL_law0_r19 ++ (wsL_law0_r20 ++ (wsL_law0_r21 ++ (wsL_law0_r22 ++ (wsL_law0_r23 ++ wsL_law0_r24))))))))))))))))))))))) ++ wsX40 ++ wsX50 ++ wsX30 ++ wsX00 ++ wsX20 ++ wsX10 ++ ([] : List Cond)
def wsL_law : List Cond := wsL_law0 ++ (vx_atS RX4 81 "java/lang/IllegalStateException" ["java/lang/RuntimeException", "java/lang/Exception"]).filter goodWord ++ (vx_atS RX4 144 "java/lang/IndexOutOfBoundsException" ["java/lang/RuntimeException", "java/lang/Exception"]).filter goodWord ++ (vx_atS RX4 201 "java/lang/IllegalArgumentException" ["java/lang/RuntimeException", "java/lang/Exception"]).filter goodWord
abbrev vwCl : List vw_C := [(RX0, TX0, 2), (RX1, TX1, 6), (RX2, TX2, 7), (RX3, TX3, 2), (RX4, TX4, 12), (RX5, TX5, 25)]
end
section
theorem dX0_init_0 : decode cX0_init 0 = .ok (.aload_n 0, 1) := by decide +kernel
theorem dX0_init_1 : decode cX0_init 1 = .ok (.invokespecial 3, 3) := by decide +kernel
theorem dX0_init_4 : decode cX0_init 4 = .ok (.aload_n 0, 1) := by decide +kernel
theorem dX0_init_5 : decode cX0_init 5 = .ok (.iconst 5, 1) := by decide +kernel
theorem dX0_init_6 : decode cX0_init 6 = .ok (.newarray .int, 2) := by decide +kernel
theorem dX0_init_8 : decode cX0_init 8 = .ok (.putfield 9, 3) := by decide +kernel
theorem dX0_init_11 : decode cX0_init 11 = .ok (.aload_n 0, 1) := by decide +kernel
theorem dX0_init_12 : decode cX0_init 12 = .ok (.bipush 25, 2) := by decide +kernel
theorem dX0_init_14 : decode cX0_init 14 = .ok (.newarray .int, 2) := by decide +kernel
theorem dX0_init_16 : decode cX0_init 16 = .ok (.putfield 15, 3) := by decide +kernel
theorem dX0_init_19 : decode cX0_init 19 = .ok (.iconst 0, 1) := by decide +kernel
theorem dX0_init_20 : decode cX0_init 20 = .ok (.istore_n 1, 1) := by decide +kernel
theorem dX0_init_21 : decode cX0_init 21 = .ok (.iload_n 1, 1) := by decide +kernel
theorem dX0_init_22 : decode cX0_init 22 = .ok (.bipush 25, 2) := by decide +kernel
theorem dX0_init_24 : decode cX0_init 24 = .ok (.if_icmp .ge 17, 3) := by decide +kernel
theorem dX0_init_27 : decode cX0_init 27 = .ok (.aload_n 0, 1) := by decide +kernel
theorem dX0_init_28 : decode cX0_init 28 = .ok (.getfield 15, 3) := by decide +kernel
theorem dX0_init_31 : decode cX0_init 31 = .ok (.iload_n 1, 1) := by decide +kernel
theorem dX0_init_32 : decode cX0_init 32 = .ok (.ldc 18, 2) := by decide +kernel
theorem dX0_init_34 : decode cX0_init 34 = .ok (.iastore, 1) := by decide +kernel
theorem dX0_init_35 : decode cX0_init 35 = .ok (.iinc 1 1, 3) := by decide +kernel
theorem dX0_init_38 : decode cX0_init 38 = .ok (.goto (-17), 3) := by decide +kernel
theorem dX0_init_41 : decode cX0_init 41 = .ok (.return_, 1) := by decide +kernel
theorem dX0_allow_0 : decode cX0_allow 0 = .ok (.iconst 0, 1) := by decide +kernel
theorem dX0_allow_1 : decode cX0_allow 1 = .ok (.istore_n 2, 1) := by decide +kernel
theorem dX0_allow_2 : decode cX0_allow 2 = .ok (.iload_n 2, 1) := by decide +kernel
theorem dX0_allow_3 : decode cX0_allow 3 = .ok (.iconst 5, 1) := by decide +kernel
theorem dX0_allow_4 : decode cX0_allow 4 = .ok (.if_icmp .ge 26, 3) := by decide +kernel
theorem dX0_allow_7 : decode cX0_allow 7 = .ok (.aload_n 1, 1) := by decide +kernel
theorem dX0_allow_8 : decode cX0_allow 8 = .ok (.getfield 19, 3) := by decide +kernel
theorem dX0_allow_11 : decode cX0_allow 11 = .ok (.iload_n 2, 1) := by decide +kernel
theorem dX0_allow_12 : decode cX0_allow 12 = .ok (.iaload, 1) := by decide +kernel
theorem dX0_allow_13 : decode cX0_allow 13 = .ok (.aload_n 0, 1) := by decide +kernel
theorem dX0_allow_14 : decode cX0_allow 14 = .ok (.getfield 9, 3) := by decide +kernel
theorem dX0_allow_17 : decode cX0_allow 17 = .ok (.iload_n 2, 1) := by decide +kernel
theorem dX0_allow_18 : decode cX0_allow 18 = .ok (.iaload, 1) := by decide +kernel
theorem dX0_allow_19 : decode cX0_allow 19 = .ok (.if_icmp .ge 5, 3) := by decide +kernel
theorem dX0_allow_22 : decode cX0_allow 22 = .ok (.iconst 0, 1) := by decide +kernel
theorem dX0_allow_23 : decode cX0_allow 23 = .ok (.ireturn, 1) := by decide +kernel
theorem dX0_allow_24 : decode cX0_allow 24 = .ok (.iinc 2 1, 3) := by decide +kernel
theorem dX0_allow_27 : decode cX0_allow 27 = .ok (.goto (-25), 3) := by decide +kernel
theorem dX0_allow_30 : decode cX0_allow 30 = .ok (.iconst 0, 1) := by decide +kernel
theorem dX0_allow_31 : decode cX0_allow 31 = .ok (.istore_n 2, 1) := by decide +kernel
theorem dX0_allow_32 : decode cX0_allow 32 = .ok (.iload_n 2, 1) := by decide +kernel
theorem dX0_allow_33 : decode cX0_allow 33 = .ok (.bipush 25, 2) := by decide +kernel
theorem dX0_allow_35 : decode cX0_allow 35 = .ok (.if_icmp .ge 26, 3) := by decide +kernel
theorem dX0_allow_38 : decode cX0_allow 38 = .ok (.aload_n 1, 1) := by decide +kernel
theorem dX0_allow_39 : decode cX0_allow 39 = .ok (.getfield 24, 3) := by decide +kernel
theorem dX0_allow_42 : decode cX0_allow 42 = .ok (.iload_n 2, 1) := by decide +kernel
theorem dX0_allow_43 : decode cX0_allow 43 = .ok (.iaload, 1) := by decide +kernel
theorem dX0_allow_44 : decode cX0_allow 44 = .ok (.aload_n 0, 1) := by decide +kernel
theorem dX0_allow_45 : decode cX0_allow 45 = .ok (.getfield 15, 3) := by decide +kernel
theorem dX0_allow_48 : decode cX0_allow 48 = .ok (.iload_n 2, 1) := by decide +kernel
theorem dX0_allow_49 : decode cX0_allow 49 = .ok (.iaload, 1) := by decide +kernel
theorem dX0_allow_50 : decode cX0_allow 50 = .ok (.if_icmp .le 5, 3) := by decide +kernel
theorem dX0_allow_53 : decode cX0_allow 53 = .ok (.iconst 0, 1) := by decide +kernel
theorem dX0_allow_54 : decode cX0_allow 54 = .ok (.ireturn, 1) := by decide +kernel
theorem dX0_allow_55 : decode cX0_allow 55 = .ok (.iinc 2 1, 3) := by decide +kernel
theorem dX0_allow_58 : decode cX0_allow 58 = .ok (.goto (-26), 3) := by decide +kernel
theorem dX0_allow_61 : decode cX0_allow 61 = .ok (.iconst 1, 1) := by decide +kernel
theorem dX0_allow_62 : decode cX0_allow 62 = .ok (.ireturn, 1) := by decide +kernel
theorem dX1_init_0 : decode cX1_init 0 = .ok (.aload_n 0, 1) := by decide +kernel
theorem dX1_init_1 : decode cX1_init 1 = .ok (.invokespecial 3, 3) := by decide +kernel
theorem dX1_init_4 : decode cX1_init 4 = .ok (.aload_n 0, 1) := by decide +kernel
theorem dX1_init_5 : decode cX1_init 5 = .ok (.bipush 40, 2) := by decide +kernel
theorem dX1_init_7 : decode cX1_init 7 = .ok (.newarray .int, 2) := by decide +kernel
theorem dX1_init_9 : decode cX1_init 9 = .ok (.putfield 9, 3) := by decide +kernel
theorem dX1_init_12 : decode cX1_init 12 = .ok (.aload_n 0, 1) := by decide +kernel
theorem dX1_init_13 : decode cX1_init 13 = .ok (.bipush 40, 2) := by decide +kernel
theorem dX1_init_15 : decode cX1_init 15 = .ok (.newarray .int, 2) := by decide +kernel
theorem dX1_init_17 : decode cX1_init 17 = .ok (.putfield 15, 3) := by decide +kernel
theorem dX1_init_20 : decode cX1_init 20 = .ok (.aload_n 0, 1) := by decide +kernel
theorem dX1_init_21 : decode cX1_init 21 = .ok (.bipush 40, 2) := by decide +kernel
theorem dX1_init_23 : decode cX1_init 23 = .ok (.newarray .int, 2) := by decide +kernel
theorem dX1_init_25 : decode cX1_init 25 = .ok (.putfield 18, 3) := by decide +kernel
theorem dX1_init_28 : decode cX1_init 28 = .ok (.aload_n 0, 1) := by decide +kernel
theorem dX1_init_29 : decode cX1_init 29 = .ok (.bipush 40, 2) := by decide +kernel
theorem dX1_init_31 : decode cX1_init 31 = .ok (.newarray .int, 2) := by decide +kernel
theorem dX1_init_33 : decode cX1_init 33 = .ok (.putfield 21, 3) := by decide +kernel
theorem dX1_init_36 : decode cX1_init 36 = .ok (.return_, 1) := by decide +kernel
theorem dX1_enter_0 : decode cX1_enter 0 = .ok (.aload_n 0, 1) := by decide +kernel
theorem dX1_enter_1 : decode cX1_enter 1 = .ok (.getfield 24, 3) := by decide +kernel
theorem dX1_enter_4 : decode cX1_enter 4 = .ok (.istore 5, 2) := by decide +kernel
theorem dX1_enter_6 : decode cX1_enter 6 = .ok (.aload_n 0, 1) := by decide +kernel
theorem dX1_enter_7 : decode cX1_enter 7 = .ok (.getfield 9, 3) := by decide +kernel
theorem dX1_enter_10 : decode cX1_enter 10 = .ok (.iload 5, 2) := by decide +kernel
theorem dX1_enter_12 : decode cX1_enter 12 = .ok (.iload_n 1, 1) := by decide +kernel
theorem dX1_enter_13 : decode cX1_enter 13 = .ok (.iastore, 1) := by decide +kernel
theorem dX1_enter_14 : decode cX1_enter 14 = .ok (.aload_n 0, 1) := by decide +kernel
theorem dX1_enter_15 : decode cX1_enter 15 = .ok (.getfield 15, 3) := by decide +kernel
theorem dX1_enter_18 : decode cX1_enter 18 = .ok (.iload 5, 2) := by decide +kernel
theorem dX1_enter_20 : decode cX1_enter 20 = .ok (.iload_n 2, 1) := by decide +kernel
theorem dX1_enter_21 : decode cX1_enter 21 = .ok (.iastore, 1) := by decide +kernel
theorem dX1_enter_22 : decode cX1_enter 22 = .ok (.aload_n 0, 1) := by decide +kernel
theorem dX1_enter_23 : decode cX1_enter 23 = .ok (.getfield 18, 3) := by decide +kernel
theorem dX1_enter_26 : decode cX1_enter 26 = .ok (.iload 5, 2) := by decide +kernel
theorem dX1_enter_28 : decode cX1_enter 28 = .ok (.iload_n 3, 1) := by decide +kernel
theorem dX1_enter_29 : decode cX1_enter 29 = .ok (.iastore, 1) := by decide +kernel
theorem dX1_enter_30 : decode cX1_enter 30 = .ok (.aload_n 0, 1) := by decide +kernel
theorem dX1_enter_31 : decode cX1_enter 31 = .ok (.getfield 21, 3) := by decide +kernel
theorem dX1_enter_34 : decode cX1_enter 34 = .ok (.iload 5, 2) := by decide +kernel
theorem dX1_enter_36 : decode cX1_enter 36 = .ok (.iload 4, 2) := by decide +kernel
theorem dX1_enter_38 : decode cX1_enter 38 = .ok (.iastore, 1) := by decide +kernel
theorem dX1_enter_39 : decode cX1_enter 39 = .ok (.aload_n 0, 1) := by decide +kernel
theorem dX1_enter_40 : decode cX1_enter 40 = .ok (.dup, 1) := by decide +kernel
theorem dX1_enter_41 : decode cX1_enter 41 = .ok (.getfield 24, 3) := by decide +kernel
theorem dX1_enter_44 : decode cX1_enter 44 = .ok (.iconst 1, 1) := by decide +kernel
theorem dX1_enter_45 : decode cX1_enter 45 = .ok (.iadd, 1) := by decide +kernel
theorem dX1_enter_46 : decode cX1_enter 46 = .ok (.putfield 24, 3) := by decide +kernel
theorem dX1_enter_49 : decode cX1_enter 49 = .ok (.iload 5, 2) := by decide +kernel
theorem dX1_enter_51 : decode cX1_enter 51 = .ok (.ireturn, 1) := by decide +kernel
theorem dX2_init_0 : decode cX2_init 0 = .ok (.aload_n 0, 1) := by decide +kernel
theorem dX2_init_1 : decode cX2_init 1 = .ok (.invokespecial 3, 3) := by decide +kernel
theorem dX2_init_4 : decode cX2_init 4 = .ok (.aload_n 0, 1) := by decide +kernel
theorem dX2_init_5 : decode cX2_init 5 = .ok (.bipush 60, 2) := by decide +kernel
theorem dX2_init_7 : decode cX2_init 7 = .ok (.newarray .int, 2) := by decide +kernel
theorem dX2_init_9 : decode cX2_init 9 = .ok (.putfield 9, 3) := by decide +kernel
theorem dX2_init_12 : decode cX2_init 12 = .ok (.aload_n 0, 1) := by decide +kernel
theorem dX2_init_13 : decode cX2_init 13 = .ok (.bipush 60, 2) := by decide +kernel
theorem dX2_init_15 : decode cX2_init 15 = .ok (.newarray .int, 2) := by decide +kernel
theorem dX2_init_17 : decode cX2_init 17 = .ok (.putfield 15, 3) := by decide +kernel
theorem dX2_init_20 : decode cX2_init 20 = .ok (.aload_n 0, 1) := by decide +kernel
theorem dX2_init_21 : decode cX2_init 21 = .ok (.bipush 60, 2) := by decide +kernel
theorem dX2_init_23 : decode cX2_init 23 = .ok (.newarray .int, 2) := by decide +kernel
theorem dX2_init_25 : decode cX2_init 25 = .ok (.putfield 18, 3) := by decide +kernel
theorem dX2_init_28 : decode cX2_init 28 = .ok (.aload_n 0, 1) := by decide +kernel
theorem dX2_init_29 : decode cX2_init 29 = .ok (.bipush 60, 2) := by decide +kernel
theorem dX2_init_31 : decode cX2_init 31 = .ok (.newarray .int, 2) := by decide +kernel
theorem dX2_init_33 : decode cX2_init 33 = .ok (.putfield 21, 3) := by decide +kernel
theorem dX2_init_36 : decode cX2_init 36 = .ok (.aload_n 0, 1) := by decide +kernel
theorem dX2_init_37 : decode cX2_init 37 = .ok (.bipush 60, 2) := by decide +kernel
theorem dX2_init_39 : decode cX2_init 39 = .ok (.newarray .boolean, 2) := by decide +kernel
theorem dX2_init_41 : decode cX2_init 41 = .ok (.putfield 24, 3) := by decide +kernel
theorem dX2_init_44 : decode cX2_init 44 = .ok (.aload_n 0, 1) := by decide +kernel
theorem dX2_init_45 : decode cX2_init 45 = .ok (.bipush 60, 2) := by decide +kernel
theorem dX2_init_47 : decode cX2_init 47 = .ok (.newarray .int, 2) := by decide +kernel
theorem dX2_init_49 : decode cX2_init 49 = .ok (.putfield 28, 3) := by decide +kernel
theorem dX2_init_52 : decode cX2_init 52 = .ok (.return_, 1) := by decide +kernel
theorem dX2_enter_0 : decode cX2_enter 0 = .ok (.aload_n 0, 1) := by decide +kernel
theorem dX2_enter_1 : decode cX2_enter 1 = .ok (.getfield 31, 3) := by decide +kernel
theorem dX2_enter_4 : decode cX2_enter 4 = .ok (.istore 5, 2) := by decide +kernel
theorem dX2_enter_6 : decode cX2_enter 6 = .ok (.aload_n 0, 1) := by decide +kernel
theorem dX2_enter_7 : decode cX2_enter 7 = .ok (.getfield 9, 3) := by decide +kernel
theorem dX2_enter_10 : decode cX2_enter 10 = .ok (.iload 5, 2) := by decide +kernel
theorem dX2_enter_12 : decode cX2_enter 12 = .ok (.iload_n 1, 1) := by decide +kernel
theorem dX2_enter_13 : decode cX2_enter 13 = .ok (.iastore, 1) := by decide +kernel
theorem dX2_enter_14 : decode cX2_enter 14 = .ok (.aload_n 0, 1) := by decide +kernel
theorem dX2_enter_15 : decode cX2_enter 15 = .ok (.getfield 15, 3) := by decide +kernel
theorem dX2_enter_18 : decode cX2_enter 18 = .ok (.iload 5, 2) := by decide +kernel
theorem dX2_enter_20 : decode cX2_enter 20 = .ok (.iload_n 2, 1) := by decide +kernel
theorem dX2_enter_21 : decode cX2_enter 21 = .ok (.iastore, 1) := by decide +kernel
theorem dX2_enter_22 : decode cX2_enter 22 = .ok (.aload_n 0, 1) := by decide +kernel
theorem dX2_enter_23 : decode cX2_enter 23 = .ok (.getfield 18, 3) := by decide +kernel
theorem dX2_enter_26 : decode cX2_enter 26 = .ok (.iload 5, 2) := by decide +kernel
theorem dX2_enter_28 : decode cX2_enter 28 = .ok (.iload_n 3, 1) := by decide +kernel
theorem dX2_enter_29 : decode cX2_enter 29 = .ok (.iastore, 1) := by decide +kernel
theorem dX2_enter_30 : decode cX2_enter 30 = .ok (.aload_n 0, 1) := by decide +kernel
theorem dX2_enter_31 : decode cX2_enter 31 = .ok (.getfield 21, 3) := by decide +kernel
theorem dX2_enter_34 : decode cX2_enter 34 = .ok (.iload 5, 2) := by decide +kernel
theorem dX2_enter_36 : decode cX2_enter 36 = .ok (.iload 4, 2) := by decide +kernel
theorem dX2_enter_38 : decode cX2_enter 38 = .ok (.iastore, 1) := by decide +kernel
theorem dX2_enter_39 : decode cX2_enter 39 = .ok (.aload_n 0, 1) := by decide +kernel
theorem dX2_enter_40 : decode cX2_enter 40 = .ok (.getfield 24, 3) := by decide +kernel
theorem dX2_enter_43 : decode cX2_enter 43 = .ok (.iload 5, 2) := by decide +kernel
theorem dX2_enter_45 : decode cX2_enter 45 = .ok (.iconst 1, 1) := by decide +kernel
theorem dX2_enter_46 : decode cX2_enter 46 = .ok (.bastore, 1) := by decide +kernel
theorem dX2_enter_47 : decode cX2_enter 47 = .ok (.aload_n 0, 1) := by decide +kernel
theorem dX2_enter_48 : decode cX2_enter 48 = .ok (.getfield 31, 3) := by decide +kernel
theorem dX2_enter_51 : decode cX2_enter 51 = .ok (.istore 6, 2) := by decide +kernel
theorem dX2_enter_53 : decode cX2_enter 53 = .ok (.iload 6, 2) := by decide +kernel
theorem dX2_enter_55 : decode cX2_enter 55 = .ok (.ifCond .le 44, 3) := by decide +kernel
theorem dX2_enter_58 : decode cX2_enter 58 = .ok (.aload_n 0, 1) := by decide +kernel
theorem dX2_enter_59 : decode cX2_enter 59 = .ok (.getfield 21, 3) := by decide +kernel
theorem dX2_enter_62 : decode cX2_enter 62 = .ok (.aload_n 0, 1) := by decide +kernel
theorem dX2_enter_63 : decode cX2_enter 63 = .ok (.getfield 28, 3) := by decide +kernel
theorem dX2_enter_66 : decode cX2_enter 66 = .ok (.iload 6, 2) := by decide +kernel
theorem dX2_enter_68 : decode cX2_enter 68 = .ok (.iconst 1, 1) := by decide +kernel
theorem dX2_enter_69 : decode cX2_enter 69 = .ok (.isub, 1) := by decide +kernel
theorem dX2_enter_70 : decode cX2_enter 70 = .ok (.iaload, 1) := by decide +kernel
theorem dX2_enter_71 : decode cX2_enter 71 = .ok (.iaload, 1) := by decide +kernel
theorem dX2_enter_72 : decode cX2_enter 72 = .ok (.iload 4, 2) := by decide +kernel
theorem dX2_enter_74 : decode cX2_enter 74 = .ok (.if_icmp .ge 25, 3) := by decide +kernel
theorem dX2_enter_77 : decode cX2_enter 77 = .ok (.aload_n 0, 1) := by decide +kernel
theorem dX2_enter_78 : decode cX2_enter 78 = .ok (.getfield 28, 3) := by decide +kernel
theorem dX2_enter_81 : decode cX2_enter 81 = .ok (.iload 6, 2) := by decide +kernel
theorem dX2_enter_83 : decode cX2_enter 83 = .ok (.aload_n 0, 1) := by decide +kernel
theorem dX2_enter_84 : decode cX2_enter 84 = .ok (.getfield 28, 3) := by decide +kernel
theorem dX2_enter_87 : decode cX2_enter 87 = .ok (.iload 6, 2) := by decide +kernel
theorem dX2_enter_89 : decode cX2_enter 89 = .ok (.iconst 1, 1) := by decide +kernel
theorem dX2_enter_90 : decode cX2_enter 90 = .ok (.isub, 1) := by decide +kernel
theorem dX2_enter_91 : decode cX2_enter 91 = .ok (.iaload, 1) := by decide +kernel
theorem dX2_enter_92 : decode cX2_enter 92 = .ok (.iastore, 1) := by decide +kernel
theorem dX2_enter_93 : decode cX2_enter 93 = .ok (.iinc 6 (-1), 3) := by decide +kernel
theorem dX2_enter_96 : decode cX2_enter 96 = .ok (.goto (-43), 3) := by decide +kernel
theorem dX2_enter_99 : decode cX2_enter 99 = .ok (.aload_n 0, 1) := by decide +kernel
theorem dX2_enter_100 : decode cX2_enter 100 = .ok (.getfield 28, 3) := by decide +kernel
theorem dX2_enter_103 : decode cX2_enter 103 = .ok (.iload 6, 2) := by decide +kernel
theorem dX2_enter_105 : decode cX2_enter 105 = .ok (.iload 5, 2) := by decide +kernel
theorem dX2_enter_107 : decode cX2_enter 107 = .ok (.iastore, 1) := by decide +kernel
theorem dX2_enter_108 : decode cX2_enter 108 = .ok (.aload_n 0, 1) := by decide +kernel
theorem dX2_enter_109 : decode cX2_enter 109 = .ok (.dup, 1) := by decide +kernel
theorem dX2_enter_110 : decode cX2_enter 110 = .ok (.getfield 31, 3) := by decide +kernel
theorem dX2_enter_113 : decode cX2_enter 113 = .ok (.iconst 1, 1) := by decide +kernel
theorem dX2_enter_114 : decode cX2_enter 114 = .ok (.iadd, 1) := by decide +kernel
theorem dX2_enter_115 : decode cX2_enter 115 = .ok (.putfield 31, 3) := by decide +kernel
theorem dX2_enter_118 : decode cX2_enter 118 = .ok (.iload 5, 2) := by decide +kernel
theorem dX2_enter_120 : decode cX2_enter 120 = .ok (.ireturn, 1) := by decide +kernel
set_option maxRecDepth 20000 in
theorem ggX2_apply_X3_move : GoodIn wsX2_apply wsX3_move := goodIn_r _ [8, 9, 25, 26] (by decide +kernel) (by decide +kernel)
set_option maxRecDepth 20000 in
theorem gX2_apply_X3_move : GoodIn wsX2_apply (wsV RX2 35 RX3 yX3_move wsX3_move) := goodIn_app (goodIn_of _ (by decide +kernel)) ggX2_apply_X3_move
set_option maxRecDepth 20000 in
theorem ggX2_apply_X3_notePaid : GoodIn wsX2_apply wsX3_notePaid := goodIn_r _ [13, 14, 15, 16, 17, 25, 26] (by decide +kernel) (by decide +kernel)
set_option maxRecDepth 20000 in
theorem gX2_apply_X3_notePaid : GoodIn wsX2_apply (wsV RX2 41 RX3 yX3_notePaid wsX3_notePaid) := goodIn_app (goodIn_of _ (by decide +kernel)) ggX2_apply_X3_notePaid
theorem dX2_apply_0 : decode cX2_apply 0 = .ok (.aload_n 2, 1) := by decide +kernel
theorem dX2_apply_1 : decode cX2_apply 1 = .ok (.aload_n 0, 1) := by decide +kernel
theorem dX2_apply_2 : decode cX2_apply 2 = .ok (.getfield 9, 3) := by decide +kernel
theorem dX2_apply_5 : decode cX2_apply 5 = .ok (.iload_n 1, 1) := by decide +kernel
theorem dX2_apply_6 : decode cX2_apply 6 = .ok (.iaload, 1) := by decide +kernel
theorem dX2_apply_7 : decode cX2_apply 7 = .ok (.aload_n 0, 1) := by decide +kernel
theorem dX2_apply_8 : decode cX2_apply 8 = .ok (.getfield 15, 3) := by decide +kernel
theorem dX2_apply_11 : decode cX2_apply 11 = .ok (.iload_n 1, 1) := by decide +kernel
theorem dX2_apply_12 : decode cX2_apply 12 = .ok (.iaload, 1) := by decide +kernel
theorem dX2_apply_13 : decode cX2_apply 13 = .ok (.aload_n 0, 1) := by decide +kernel
theorem dX2_apply_14 : decode cX2_apply 14 = .ok (.getfield 18, 3) := by decide +kernel
theorem dX2_apply_17 : decode cX2_apply 17 = .ok (.iload_n 1, 1) := by decide +kernel
theorem dX2_apply_18 : decode cX2_apply 18 = .ok (.iaload, 1) := by decide +kernel
theorem dX2_apply_19 : decode cX2_apply 19 = .ok (.invokevirtual 35, 3) := by decide +kernel
theorem dX2_apply_22 : decode cX2_apply 22 = .ok (.aload_n 2, 1) := by decide +kernel
theorem dX2_apply_23 : decode cX2_apply 23 = .ok (.aload_n 0, 1) := by decide +kernel
theorem dX2_apply_24 : decode cX2_apply 24 = .ok (.getfield 9, 3) := by decide +kernel
theorem dX2_apply_27 : decode cX2_apply 27 = .ok (.iload_n 1, 1) := by decide +kernel
theorem dX2_apply_28 : decode cX2_apply 28 = .ok (.iaload, 1) := by decide +kernel
theorem dX2_apply_29 : decode cX2_apply 29 = .ok (.aload_n 0, 1) := by decide +kernel
theorem dX2_apply_30 : decode cX2_apply 30 = .ok (.getfield 15, 3) := by decide +kernel
theorem dX2_apply_33 : decode cX2_apply 33 = .ok (.iload_n 1, 1) := by decide +kernel
theorem dX2_apply_34 : decode cX2_apply 34 = .ok (.iaload, 1) := by decide +kernel
theorem dX2_apply_35 : decode cX2_apply 35 = .ok (.aload_n 0, 1) := by decide +kernel
theorem dX2_apply_36 : decode cX2_apply 36 = .ok (.getfield 18, 3) := by decide +kernel
theorem dX2_apply_39 : decode cX2_apply 39 = .ok (.iload_n 1, 1) := by decide +kernel
theorem dX2_apply_40 : decode cX2_apply 40 = .ok (.iaload, 1) := by decide +kernel
theorem dX2_apply_41 : decode cX2_apply 41 = .ok (.invokevirtual 41, 3) := by decide +kernel
theorem dX2_apply_44 : decode cX2_apply 44 = .ok (.return_, 1) := by decide +kernel
theorem dX2_waitsAt_0 : decode cX2_waitsAt 0 = .ok (.aload_n 0, 1) := by decide +kernel
theorem dX2_waitsAt_1 : decode cX2_waitsAt 1 = .ok (.getfield 24, 3) := by decide +kernel
theorem dX2_waitsAt_4 : decode cX2_waitsAt 4 = .ok (.iload_n 1, 1) := by decide +kernel
theorem dX2_waitsAt_5 : decode cX2_waitsAt 5 = .ok (.baload, 1) := by decide +kernel
theorem dX2_waitsAt_6 : decode cX2_waitsAt 6 = .ok (.ifCond .eq 17, 3) := by decide +kernel
theorem dX2_waitsAt_9 : decode cX2_waitsAt 9 = .ok (.aload_n 0, 1) := by decide +kernel
theorem dX2_waitsAt_10 : decode cX2_waitsAt 10 = .ok (.getfield 9, 3) := by decide +kernel
theorem dX2_waitsAt_13 : decode cX2_waitsAt 13 = .ok (.iload_n 1, 1) := by decide +kernel
theorem dX2_waitsAt_14 : decode cX2_waitsAt 14 = .ok (.iaload, 1) := by decide +kernel
theorem dX2_waitsAt_15 : decode cX2_waitsAt 15 = .ok (.iload_n 2, 1) := by decide +kernel
theorem dX2_waitsAt_16 : decode cX2_waitsAt 16 = .ok (.if_icmp .ne 7, 3) := by decide +kernel
theorem dX2_waitsAt_19 : decode cX2_waitsAt 19 = .ok (.iconst 1, 1) := by decide +kernel
theorem dX2_waitsAt_20 : decode cX2_waitsAt 20 = .ok (.goto 4, 3) := by decide +kernel
theorem dX2_waitsAt_23 : decode cX2_waitsAt 23 = .ok (.iconst 0, 1) := by decide +kernel
theorem dX2_waitsAt_24 : decode cX2_waitsAt 24 = .ok (.ireturn, 1) := by decide +kernel
set_option maxRecDepth 20000 in
theorem ggX2_inQueue_X2_waitsAt : GoodIn wsX2_inQueue wsX2_waitsAt := goodIn_r _ [7, 8, 9, 10, 11, 12, 13, 14, 15, 16] (by decide +kernel) (by decide +kernel)
set_option maxRecDepth 20000 in
theorem gX2_inQueue_X2_waitsAt : GoodIn wsX2_inQueue (wsV RX2 44 RX2 yX2_waitsAt wsX2_waitsAt) := goodIn_app (goodIn_of _ (by decide +kernel)) ggX2_inQueue_X2_waitsAt
theorem dX2_inQueue_0 : decode cX2_inQueue 0 = .ok (.iconst 0, 1) := by decide +kernel
theorem dX2_inQueue_1 : decode cX2_inQueue 1 = .ok (.istore_n 3, 1) := by decide +kernel
theorem dX2_inQueue_2 : decode cX2_inQueue 2 = .ok (.iconst 0, 1) := by decide +kernel
theorem dX2_inQueue_3 : decode cX2_inQueue 3 = .ok (.istore 4, 2) := by decide +kernel
theorem dX2_inQueue_5 : decode cX2_inQueue 5 = .ok (.iload 4, 2) := by decide +kernel
theorem dX2_inQueue_7 : decode cX2_inQueue 7 = .ok (.aload_n 0, 1) := by decide +kernel
theorem dX2_inQueue_8 : decode cX2_inQueue 8 = .ok (.getfield 31, 3) := by decide +kernel
theorem dX2_inQueue_11 : decode cX2_inQueue 11 = .ok (.if_icmp .ge 40, 3) := by decide +kernel
theorem dX2_inQueue_14 : decode cX2_inQueue 14 = .ok (.aload_n 0, 1) := by decide +kernel
theorem dX2_inQueue_15 : decode cX2_inQueue 15 = .ok (.aload_n 0, 1) := by decide +kernel
theorem dX2_inQueue_16 : decode cX2_inQueue 16 = .ok (.getfield 28, 3) := by decide +kernel
theorem dX2_inQueue_19 : decode cX2_inQueue 19 = .ok (.iload 4, 2) := by decide +kernel
theorem dX2_inQueue_21 : decode cX2_inQueue 21 = .ok (.iaload, 1) := by decide +kernel
theorem dX2_inQueue_22 : decode cX2_inQueue 22 = .ok (.iload_n 1, 1) := by decide +kernel
theorem dX2_inQueue_23 : decode cX2_inQueue 23 = .ok (.invokevirtual 44, 3) := by decide +kernel
theorem dX2_inQueue_26 : decode cX2_inQueue 26 = .ok (.ifCond .eq 19, 3) := by decide +kernel
theorem dX2_inQueue_29 : decode cX2_inQueue 29 = .ok (.iload_n 3, 1) := by decide +kernel
theorem dX2_inQueue_30 : decode cX2_inQueue 30 = .ok (.iload_n 2, 1) := by decide +kernel
theorem dX2_inQueue_31 : decode cX2_inQueue 31 = .ok (.if_icmp .ne 11, 3) := by decide +kernel
theorem dX2_inQueue_34 : decode cX2_inQueue 34 = .ok (.aload_n 0, 1) := by decide +kernel
theorem dX2_inQueue_35 : decode cX2_inQueue 35 = .ok (.getfield 28, 3) := by decide +kernel
theorem dX2_inQueue_38 : decode cX2_inQueue 38 = .ok (.iload 4, 2) := by decide +kernel
theorem dX2_inQueue_40 : decode cX2_inQueue 40 = .ok (.iaload, 1) := by decide +kernel
theorem dX2_inQueue_41 : decode cX2_inQueue 41 = .ok (.ireturn, 1) := by decide +kernel
theorem dX2_inQueue_42 : decode cX2_inQueue 42 = .ok (.iinc 3 1, 3) := by decide +kernel
theorem dX2_inQueue_45 : decode cX2_inQueue 45 = .ok (.iinc 4 1, 3) := by decide +kernel
theorem dX2_inQueue_48 : decode cX2_inQueue 48 = .ok (.goto (-43), 3) := by decide +kernel
theorem dX2_inQueue_51 : decode cX2_inQueue 51 = .ok (.iconst (-1), 1) := by decide +kernel
theorem dX2_inQueue_52 : decode cX2_inQueue 52 = .ok (.ireturn, 1) := by decide +kernel
theorem dX2_countWaiting_0 : decode cX2_countWaiting 0 = .ok (.iconst 0, 1) := by decide +kernel
theorem dX2_countWaiting_1 : decode cX2_countWaiting 1 = .ok (.istore_n 1, 1) := by decide +kernel
theorem dX2_countWaiting_2 : decode cX2_countWaiting 2 = .ok (.iconst 0, 1) := by decide +kernel
theorem dX2_countWaiting_3 : decode cX2_countWaiting 3 = .ok (.istore_n 2, 1) := by decide +kernel
theorem dX2_countWaiting_4 : decode cX2_countWaiting 4 = .ok (.iload_n 2, 1) := by decide +kernel
theorem dX2_countWaiting_5 : decode cX2_countWaiting 5 = .ok (.aload_n 0, 1) := by decide +kernel
theorem dX2_countWaiting_6 : decode cX2_countWaiting 6 = .ok (.getfield 31, 3) := by decide +kernel
theorem dX2_countWaiting_9 : decode cX2_countWaiting 9 = .ok (.if_icmp .ge 21, 3) := by decide +kernel
theorem dX2_countWaiting_12 : decode cX2_countWaiting 12 = .ok (.aload_n 0, 1) := by decide +kernel
theorem dX2_countWaiting_13 : decode cX2_countWaiting 13 = .ok (.getfield 24, 3) := by decide +kernel
theorem dX2_countWaiting_16 : decode cX2_countWaiting 16 = .ok (.iload_n 2, 1) := by decide +kernel
theorem dX2_countWaiting_17 : decode cX2_countWaiting 17 = .ok (.baload, 1) := by decide +kernel
theorem dX2_countWaiting_18 : decode cX2_countWaiting 18 = .ok (.ifCond .eq 6, 3) := by decide +kernel
theorem dX2_countWaiting_21 : decode cX2_countWaiting 21 = .ok (.iinc 1 1, 3) := by decide +kernel
theorem dX2_countWaiting_24 : decode cX2_countWaiting 24 = .ok (.iinc 2 1, 3) := by decide +kernel
theorem dX2_countWaiting_27 : decode cX2_countWaiting 27 = .ok (.goto (-23), 3) := by decide +kernel
theorem dX2_countWaiting_30 : decode cX2_countWaiting 30 = .ok (.iload_n 1, 1) := by decide +kernel
theorem dX2_countWaiting_31 : decode cX2_countWaiting 31 = .ok (.ireturn, 1) := by decide +kernel
theorem dX2_dropAllOf_0 : decode cX2_dropAllOf 0 = .ok (.iconst 0, 1) := by decide +kernel
theorem dX2_dropAllOf_1 : decode cX2_dropAllOf 1 = .ok (.istore_n 2, 1) := by decide +kernel
theorem dX2_dropAllOf_2 : decode cX2_dropAllOf 2 = .ok (.iload_n 2, 1) := by decide +kernel
theorem dX2_dropAllOf_3 : decode cX2_dropAllOf 3 = .ok (.aload_n 0, 1) := by decide +kernel
theorem dX2_dropAllOf_4 : decode cX2_dropAllOf 4 = .ok (.getfield 31, 3) := by decide +kernel
theorem dX2_dropAllOf_7 : decode cX2_dropAllOf 7 = .ok (.if_icmp .ge 36, 3) := by decide +kernel
theorem dX2_dropAllOf_10 : decode cX2_dropAllOf 10 = .ok (.aload_n 0, 1) := by decide +kernel
theorem dX2_dropAllOf_11 : decode cX2_dropAllOf 11 = .ok (.getfield 9, 3) := by decide +kernel
theorem dX2_dropAllOf_14 : decode cX2_dropAllOf 14 = .ok (.iload_n 2, 1) := by decide +kernel
theorem dX2_dropAllOf_15 : decode cX2_dropAllOf 15 = .ok (.iaload, 1) := by decide +kernel
theorem dX2_dropAllOf_16 : decode cX2_dropAllOf 16 = .ok (.iload_n 1, 1) := by decide +kernel
theorem dX2_dropAllOf_17 : decode cX2_dropAllOf 17 = .ok (.if_icmp .eq 13, 3) := by decide +kernel
theorem dX2_dropAllOf_20 : decode cX2_dropAllOf 20 = .ok (.aload_n 0, 1) := by decide +kernel
theorem dX2_dropAllOf_21 : decode cX2_dropAllOf 21 = .ok (.getfield 15, 3) := by decide +kernel
theorem dX2_dropAllOf_24 : decode cX2_dropAllOf 24 = .ok (.iload_n 2, 1) := by decide +kernel
theorem dX2_dropAllOf_25 : decode cX2_dropAllOf 25 = .ok (.iaload, 1) := by decide +kernel
theorem dX2_dropAllOf_26 : decode cX2_dropAllOf 26 = .ok (.iload_n 1, 1) := by decide +kernel
theorem dX2_dropAllOf_27 : decode cX2_dropAllOf 27 = .ok (.if_icmp .ne 10, 3) := by decide +kernel
theorem dX2_dropAllOf_30 : decode cX2_dropAllOf 30 = .ok (.aload_n 0, 1) := by decide +kernel
theorem dX2_dropAllOf_31 : decode cX2_dropAllOf 31 = .ok (.getfield 24, 3) := by decide +kernel
theorem dX2_dropAllOf_34 : decode cX2_dropAllOf 34 = .ok (.iload_n 2, 1) := by decide +kernel
theorem dX2_dropAllOf_35 : decode cX2_dropAllOf 35 = .ok (.iconst 0, 1) := by decide +kernel
theorem dX2_dropAllOf_36 : decode cX2_dropAllOf 36 = .ok (.bastore, 1) := by decide +kernel
theorem dX2_dropAllOf_37 : decode cX2_dropAllOf 37 = .ok (.iinc 2 1, 3) := by decide +kernel
theorem dX2_dropAllOf_40 : decode cX2_dropAllOf 40 = .ok (.goto (-38), 3) := by decide +kernel
theorem dX2_dropAllOf_43 : decode cX2_dropAllOf 43 = .ok (.return_, 1) := by decide +kernel
theorem dX3_init_0 : decode cX3_init 0 = .ok (.aload_n 0, 1) := by decide +kernel
theorem dX3_init_1 : decode cX3_init 1 = .ok (.invokespecial 3, 3) := by decide +kernel
theorem dX3_init_4 : decode cX3_init 4 = .ok (.aload_n 0, 1) := by decide +kernel
theorem dX3_init_5 : decode cX3_init 5 = .ok (.iconst 5, 1) := by decide +kernel
theorem dX3_init_6 : decode cX3_init 6 = .ok (.newarray .int, 2) := by decide +kernel
theorem dX3_init_8 : decode cX3_init 8 = .ok (.putfield 9, 3) := by decide +kernel
theorem dX3_init_11 : decode cX3_init 11 = .ok (.aload_n 0, 1) := by decide +kernel
theorem dX3_init_12 : decode cX3_init 12 = .ok (.bipush 25, 2) := by decide +kernel
theorem dX3_init_14 : decode cX3_init 14 = .ok (.newarray .int, 2) := by decide +kernel
theorem dX3_init_16 : decode cX3_init 16 = .ok (.putfield 15, 3) := by decide +kernel
theorem dX3_init_19 : decode cX3_init 19 = .ok (.return_, 1) := by decide +kernel
theorem dX3_move_0 : decode cX3_move 0 = .ok (.aload_n 0, 1) := by decide +kernel
theorem dX3_move_1 : decode cX3_move 1 = .ok (.getfield 9, 3) := by decide +kernel
theorem dX3_move_4 : decode cX3_move 4 = .ok (.iload_n 1, 1) := by decide +kernel
theorem dX3_move_5 : decode cX3_move 5 = .ok (.dup2, 1) := by decide +kernel
theorem dX3_move_6 : decode cX3_move 6 = .ok (.iaload, 1) := by decide +kernel
theorem dX3_move_7 : decode cX3_move 7 = .ok (.iload_n 3, 1) := by decide +kernel
theorem dX3_move_8 : decode cX3_move 8 = .ok (.isub, 1) := by decide +kernel
theorem dX3_move_9 : decode cX3_move 9 = .ok (.iastore, 1) := by decide +kernel
theorem dX3_move_10 : decode cX3_move 10 = .ok (.aload_n 0, 1) := by decide +kernel
theorem dX3_move_11 : decode cX3_move 11 = .ok (.getfield 9, 3) := by decide +kernel
theorem dX3_move_14 : decode cX3_move 14 = .ok (.iload_n 2, 1) := by decide +kernel
theorem dX3_move_15 : decode cX3_move 15 = .ok (.dup2, 1) := by decide +kernel
theorem dX3_move_16 : decode cX3_move 16 = .ok (.iaload, 1) := by decide +kernel
theorem dX3_move_17 : decode cX3_move 17 = .ok (.iload_n 3, 1) := by decide +kernel
theorem dX3_move_18 : decode cX3_move 18 = .ok (.iadd, 1) := by decide +kernel
theorem dX3_move_19 : decode cX3_move 19 = .ok (.iastore, 1) := by decide +kernel
theorem dX3_move_20 : decode cX3_move 20 = .ok (.return_, 1) := by decide +kernel
set_option maxRecDepth 20000 in
theorem ggX3_notePaid_X4_pairOf : GoodIn wsX3_notePaid wsX4_pairOf := goodIn_r _ [4] (by decide +kernel) (by decide +kernel)
set_option maxRecDepth 20000 in
theorem gX3_notePaid_X4_pairOf_n18 : GoodIn wsX3_notePaid (wsX4_pairOf) := ggX3_notePaid_X4_pairOf
theorem dX3_notePaid_0 : decode cX3_notePaid 0 = .ok (.aload_n 0, 1) := by decide +kernel
theorem dX3_notePaid_1 : decode cX3_notePaid 1 = .ok (.getfield 15, 3) := by decide +kernel
theorem dX3_notePaid_4 : decode cX3_notePaid 4 = .ok (.iload_n 1, 1) := by decide +kernel
theorem dX3_notePaid_5 : decode cX3_notePaid 5 = .ok (.iload_n 2, 1) := by decide +kernel
theorem dX3_notePaid_6 : decode cX3_notePaid 6 = .ok (.invokestatic 18, 3) := by decide +kernel
theorem dX3_notePaid_9 : decode cX3_notePaid 9 = .ok (.dup2, 1) := by decide +kernel
theorem dX3_notePaid_10 : decode cX3_notePaid 10 = .ok (.iaload, 1) := by decide +kernel
theorem dX3_notePaid_11 : decode cX3_notePaid 11 = .ok (.iload_n 3, 1) := by decide +kernel
theorem dX3_notePaid_12 : decode cX3_notePaid 12 = .ok (.iadd, 1) := by decide +kernel
theorem dX3_notePaid_13 : decode cX3_notePaid 13 = .ok (.iastore, 1) := by decide +kernel
theorem dX3_notePaid_14 : decode cX3_notePaid 14 = .ok (.aload_n 0, 1) := by decide +kernel
theorem dX3_notePaid_15 : decode cX3_notePaid 15 = .ok (.getfield 15, 3) := by decide +kernel
theorem dX3_notePaid_18 : decode cX3_notePaid 18 = .ok (.iload_n 2, 1) := by decide +kernel
theorem dX3_notePaid_19 : decode cX3_notePaid 19 = .ok (.iload_n 1, 1) := by decide +kernel
theorem dX3_notePaid_20 : decode cX3_notePaid 20 = .ok (.invokestatic 18, 3) := by decide +kernel
theorem dX3_notePaid_23 : decode cX3_notePaid 23 = .ok (.dup2, 1) := by decide +kernel
theorem dX3_notePaid_24 : decode cX3_notePaid 24 = .ok (.iaload, 1) := by decide +kernel
theorem dX3_notePaid_25 : decode cX3_notePaid 25 = .ok (.iload_n 3, 1) := by decide +kernel
theorem dX3_notePaid_26 : decode cX3_notePaid 26 = .ok (.isub, 1) := by decide +kernel
theorem dX3_notePaid_27 : decode cX3_notePaid 27 = .ok (.iastore, 1) := by decide +kernel
theorem dX3_notePaid_28 : decode cX3_notePaid 28 = .ok (.return_, 1) := by decide +kernel
theorem dX3_forgetPaid_0 : decode cX3_forgetPaid 0 = .ok (.iconst 0, 1) := by decide +kernel
theorem dX3_forgetPaid_1 : decode cX3_forgetPaid 1 = .ok (.istore_n 1, 1) := by decide +kernel
theorem dX3_forgetPaid_2 : decode cX3_forgetPaid 2 = .ok (.iload_n 1, 1) := by decide +kernel
theorem dX3_forgetPaid_3 : decode cX3_forgetPaid 3 = .ok (.bipush 25, 2) := by decide +kernel
theorem dX3_forgetPaid_5 : decode cX3_forgetPaid 5 = .ok (.if_icmp .ge 16, 3) := by decide +kernel
theorem dX3_forgetPaid_8 : decode cX3_forgetPaid 8 = .ok (.aload_n 0, 1) := by decide +kernel
theorem dX3_forgetPaid_9 : decode cX3_forgetPaid 9 = .ok (.getfield 15, 3) := by decide +kernel
theorem dX3_forgetPaid_12 : decode cX3_forgetPaid 12 = .ok (.iload_n 1, 1) := by decide +kernel
theorem dX3_forgetPaid_13 : decode cX3_forgetPaid 13 = .ok (.iconst 0, 1) := by decide +kernel
theorem dX3_forgetPaid_14 : decode cX3_forgetPaid 14 = .ok (.iastore, 1) := by decide +kernel
theorem dX3_forgetPaid_15 : decode cX3_forgetPaid 15 = .ok (.iinc 1 1, 3) := by decide +kernel
theorem dX3_forgetPaid_18 : decode cX3_forgetPaid 18 = .ok (.goto (-16), 3) := by decide +kernel
theorem dX3_forgetPaid_21 : decode cX3_forgetPaid 21 = .ok (.return_, 1) := by decide +kernel
theorem dX3_copy_0 : decode cX3_copy 0 = .ok (.aload_n 1, 1) := by decide +kernel
theorem dX3_copy_1 : decode cX3_copy 1 = .ok (.getfield 9, 3) := by decide +kernel
theorem dX3_copy_4 : decode cX3_copy 4 = .ok (.iconst 0, 1) := by decide +kernel
theorem dX3_copy_5 : decode cX3_copy 5 = .ok (.aload_n 0, 1) := by decide +kernel
theorem dX3_copy_6 : decode cX3_copy 6 = .ok (.getfield 9, 3) := by decide +kernel
theorem dX3_copy_9 : decode cX3_copy 9 = .ok (.iconst 0, 1) := by decide +kernel
theorem dX3_copy_10 : decode cX3_copy 10 = .ok (.iconst 5, 1) := by decide +kernel
theorem dX3_copy_11 : decode cX3_copy 11 = .ok (.invokestatic 22, 3) := by decide +kernel
theorem dX3_copy_14 : decode cX3_copy 14 = .ok (.aload_n 1, 1) := by decide +kernel
theorem dX3_copy_15 : decode cX3_copy 15 = .ok (.getfield 15, 3) := by decide +kernel
theorem dX3_copy_18 : decode cX3_copy 18 = .ok (.iconst 0, 1) := by decide +kernel
theorem dX3_copy_19 : decode cX3_copy 19 = .ok (.aload_n 0, 1) := by decide +kernel
theorem dX3_copy_20 : decode cX3_copy 20 = .ok (.getfield 15, 3) := by decide +kernel
theorem dX3_copy_23 : decode cX3_copy 23 = .ok (.iconst 0, 1) := by decide +kernel
theorem dX3_copy_24 : decode cX3_copy 24 = .ok (.bipush 25, 2) := by decide +kernel
theorem dX3_copy_26 : decode cX3_copy 26 = .ok (.invokestatic 22, 3) := by decide +kernel
theorem dX3_copy_29 : decode cX3_copy 29 = .ok (.return_, 1) := by decide +kernel
set_option maxRecDepth 20000 in
theorem ggX4_init_X3_init : GoodIn wsX4_init wsX3_init := goodIn_r _ [31, 32, 2, 3, 23, 33, 34, 60, 61] (by decide +kernel) (by decide +kernel)
set_option maxRecDepth 20000 in
theorem gX4_init_X3_init : GoodIn wsX4_init (wsX3_init) := ggX4_init_X3_init
set_option maxRecDepth 20000 in
theorem ggX4_init_X0_init : GoodIn wsX4_init wsX0_init := goodIn_r _ [37, 38, 2, 3, 23, 39, 40, 41, 74, 75] (by decide +kernel) (by decide +kernel)
set_option maxRecDepth 20000 in
theorem gX4_init_X0_init : GoodIn wsX4_init (wsX0_init) := ggX4_init_X0_init
set_option maxRecDepth 20000 in
theorem ggX4_init_X2_init : GoodIn wsX4_init wsX2_init := goodIn_r _ [44, 45, 2, 3, 23, 46, 47, 48, 49, 21, 50, 51, 76, 77, 78, 79, 80, 81, 82] (by decide +kernel) (by decide +kernel)
set_option maxRecDepth 20000 in
theorem gX4_init_X2_init : GoodIn wsX4_init (wsX2_init) := ggX4_init_X2_init
set_option maxRecDepth 20000 in
theorem ggX4_init_X1_init : GoodIn wsX4_init wsX1_init := goodIn_r _ [54, 55, 2, 3, 23, 56, 57, 58, 59, 83, 84, 85, 86, 87, 88] (by decide +kernel) (by decide +kernel)
set_option maxRecDepth 20000 in
theorem gX4_init_X1_init : GoodIn wsX4_init (wsX1_init) := ggX4_init_X1_init
theorem dX4_init_0 : decode cX4_init 0 = .ok (.aload_n 0, 1) := by decide +kernel
theorem dX4_init_1 : decode cX4_init 1 = .ok (.invokespecial 1, 3) := by decide +kernel
theorem dX4_init_4 : decode cX4_init 4 = .ok (.aload_n 0, 1) := by decide +kernel
theorem dX4_init_5 : decode cX4_init 5 = .ok (.new 7, 3) := by decide +kernel
theorem dX4_init_8 : decode cX4_init 8 = .ok (.dup, 1) := by decide +kernel
theorem dX4_init_9 : decode cX4_init 9 = .ok (.invokespecial 9, 3) := by decide +kernel
theorem dX4_init_12 : decode cX4_init 12 = .ok (.putfield 10, 3) := by decide +kernel
theorem dX4_init_15 : decode cX4_init 15 = .ok (.aload_n 0, 1) := by decide +kernel
theorem dX4_init_16 : decode cX4_init 16 = .ok (.new 7, 3) := by decide +kernel
theorem dX4_init_19 : decode cX4_init 19 = .ok (.dup, 1) := by decide +kernel
theorem dX4_init_20 : decode cX4_init 20 = .ok (.invokespecial 9, 3) := by decide +kernel
theorem dX4_init_23 : decode cX4_init 23 = .ok (.putfield 16, 3) := by decide +kernel
theorem dX4_init_26 : decode cX4_init 26 = .ok (.aload_n 0, 1) := by decide +kernel
theorem dX4_init_27 : decode cX4_init 27 = .ok (.new 19, 3) := by decide +kernel
theorem dX4_init_30 : decode cX4_init 30 = .ok (.dup, 1) := by decide +kernel
theorem dX4_init_31 : decode cX4_init 31 = .ok (.invokespecial 21, 3) := by decide +kernel
theorem dX4_init_34 : decode cX4_init 34 = .ok (.putfield 22, 3) := by decide +kernel
theorem dX4_init_37 : decode cX4_init 37 = .ok (.aload_n 0, 1) := by decide +kernel
theorem dX4_init_38 : decode cX4_init 38 = .ok (.new 26, 3) := by decide +kernel
theorem dX4_init_41 : decode cX4_init 41 = .ok (.dup, 1) := by decide +kernel
theorem dX4_init_42 : decode cX4_init 42 = .ok (.invokespecial 28, 3) := by decide +kernel
theorem dX4_init_45 : decode cX4_init 45 = .ok (.putfield 29, 3) := by decide +kernel
theorem dX4_init_48 : decode cX4_init 48 = .ok (.aload_n 0, 1) := by decide +kernel
theorem dX4_init_49 : decode cX4_init 49 = .ok (.new 33, 3) := by decide +kernel
theorem dX4_init_52 : decode cX4_init 52 = .ok (.dup, 1) := by decide +kernel
theorem dX4_init_53 : decode cX4_init 53 = .ok (.invokespecial 35, 3) := by decide +kernel
theorem dX4_init_56 : decode cX4_init 56 = .ok (.putfield 36, 3) := by decide +kernel
theorem dX4_init_59 : decode cX4_init 59 = .ok (.aload_n 0, 1) := by decide +kernel
theorem dX4_init_60 : decode cX4_init 60 = .ok (.iconst 5, 1) := by decide +kernel
theorem dX4_init_61 : decode cX4_init 61 = .ok (.newarray .boolean, 2) := by decide +kernel
theorem dX4_init_63 : decode cX4_init 63 = .ok (.putfield 40, 3) := by decide +kernel
theorem dX4_init_66 : decode cX4_init 66 = .ok (.aload_n 0, 1) := by decide +kernel
theorem dX4_init_67 : decode cX4_init 67 = .ok (.iconst 5, 1) := by decide +kernel
theorem dX4_init_68 : decode cX4_init 68 = .ok (.newarray .int, 2) := by decide +kernel
theorem dX4_init_70 : decode cX4_init 70 = .ok (.putfield 44, 3) := by decide +kernel
theorem dX4_init_73 : decode cX4_init 73 = .ok (.aload_n 0, 1) := by decide +kernel
theorem dX4_init_74 : decode cX4_init 74 = .ok (.bipush 10, 2) := by decide +kernel
theorem dX4_init_76 : decode cX4_init 76 = .ok (.newarray .int, 2) := by decide +kernel
theorem dX4_init_78 : decode cX4_init 78 = .ok (.putfield 48, 3) := by decide +kernel
theorem dX4_init_81 : decode cX4_init 81 = .ok (.aload_n 0, 1) := by decide +kernel
theorem dX4_init_82 : decode cX4_init 82 = .ok (.bipush 100, 2) := by decide +kernel
theorem dX4_init_84 : decode cX4_init 84 = .ok (.putfield 51, 3) := by decide +kernel
theorem dX4_init_87 : decode cX4_init 87 = .ok (.aload_n 0, 1) := by decide +kernel
theorem dX4_init_88 : decode cX4_init 88 = .ok (.bipush 100, 2) := by decide +kernel
theorem dX4_init_90 : decode cX4_init 90 = .ok (.putfield 55, 3) := by decide +kernel
theorem dX4_init_93 : decode cX4_init 93 = .ok (.aload_n 0, 1) := by decide +kernel
theorem dX4_init_94 : decode cX4_init 94 = .ok (.sipush 200, 3) := by decide +kernel
theorem dX4_init_97 : decode cX4_init 97 = .ok (.putfield 58, 3) := by decide +kernel
theorem dX4_init_100 : decode cX4_init 100 = .ok (.return_, 1) := by decide +kernel
set_option maxRecDepth 20000 in
theorem ggX4_fund_X4_requireBank : GoodIn wsX4_fund wsX4_requireBank := goodIn_ca (goodIn_r _ [10, 11, 12] (by decide +kernel) (by decide +kernel)) (goodIn_sub (fun _ h => List.mem_cons_of_mem _ (List.mem_append_left _ (List.mem_append_right _ h))) (by decide +kernel))
set_option maxRecDepth 20000 in
theorem gX4_fund_X4_requireBank : GoodIn wsX4_fund (va_wsS RX4 61 yX4_requireBank wsX4_requireBank) := goodIn_app (goodIn_of _ (by decide +kernel)) ggX4_fund_X4_requireBank
set_option maxRecDepth 20000 in
theorem ggX4_fund_X4_requireRange : GoodIn wsX4_fund wsX4_requireRange := goodIn_ca (goodIn_r _ [15, 16, 17] (by decide +kernel) (by decide +kernel)) (goodIn_sub (fun _ h => List.mem_cons_of_mem _ (List.mem_append_right _ h)) (by decide +kernel))
set_option maxRecDepth 20000 in
theorem gX4_fund_X4_requireRange : GoodIn wsX4_fund (va_wsS RX4 66 yX4_requireRange wsX4_requireRange) := goodIn_app (goodIn_of _ (by decide +kernel)) ggX4_fund_X4_requireRange
set_option maxRecDepth 20000 in
theorem ggX4_fund_X4_requireOpen : GoodIn wsX4_fund wsX4_requireOpen := goodIn_ca (goodIn_r _ [21, 1, 2, 22, 23, 24, 25, 26, 27, 28, 29, 30, 31, 32, 33, 34] (by decide +kernel) (by decide +kernel)) (goodIn_sub (fun _ h => List.mem_cons_of_mem _ (List.mem_append_left _ (List.mem_append_left _ (List.mem_append_right _ h)))) (by decide +kernel))
set_option maxRecDepth 20000 in
theorem gX4_fund_X4_requireOpen : GoodIn wsX4_fund (wsV RX4 70 RX4 yX4_requireOpen wsX4_requireOpen) := goodIn_app (goodIn_of _ (by decide +kernel)) ggX4_fund_X4_requireOpen
theorem dX4_fund_0 : decode cX4_fund 0 = .ok (.iload_n 1, 1) := by decide +kernel
theorem dX4_fund_1 : decode cX4_fund 1 = .ok (.invokestatic 61, 3) := by decide +kernel
theorem dX4_fund_4 : decode cX4_fund 4 = .ok (.iload_n 2, 1) := by decide +kernel
theorem dX4_fund_5 : decode cX4_fund 5 = .ok (.iconst 1, 1) := by decide +kernel
theorem dX4_fund_6 : decode cX4_fund 6 = .ok (.ldc 65, 2) := by decide +kernel
theorem dX4_fund_8 : decode cX4_fund 8 = .ok (.invokestatic 66, 3) := by decide +kernel
theorem dX4_fund_11 : decode cX4_fund 11 = .ok (.aload_n 0, 1) := by decide +kernel
theorem dX4_fund_12 : decode cX4_fund 12 = .ok (.iload_n 1, 1) := by decide +kernel
theorem dX4_fund_13 : decode cX4_fund 13 = .ok (.invokevirtual 70, 3) := by decide +kernel
theorem dX4_fund_16 : decode cX4_fund 16 = .ok (.aload_n 0, 1) := by decide +kernel
theorem dX4_fund_17 : decode cX4_fund 17 = .ok (.getfield 10, 3) := by decide +kernel
theorem dX4_fund_20 : decode cX4_fund 20 = .ok (.getfield 73, 3) := by decide +kernel
theorem dX4_fund_23 : decode cX4_fund 23 = .ok (.iload_n 1, 1) := by decide +kernel
theorem dX4_fund_24 : decode cX4_fund 24 = .ok (.iaload, 1) := by decide +kernel
theorem dX4_fund_25 : decode cX4_fund 25 = .ok (.iload_n 2, 1) := by decide +kernel
theorem dX4_fund_26 : decode cX4_fund 26 = .ok (.iadd, 1) := by decide +kernel
theorem dX4_fund_27 : decode cX4_fund 27 = .ok (.ldc 76, 2) := by decide +kernel
theorem dX4_fund_29 : decode cX4_fund 29 = .ok (.if_icmp .le 13, 3) := by decide +kernel
theorem dX4_fund_32 : decode cX4_fund 32 = .ok (.new 77, 3) := by decide +kernel
theorem dX4_fund_35 : decode cX4_fund 35 = .ok (.dup, 1) := by decide +kernel
theorem dX4_fund_36 : decode cX4_fund 36 = .ok (.ldc 79, 2) := by decide +kernel
theorem dX4_fund_38 : decode cX4_fund 38 = .ok (.invokespecial 81, 3) := by decide +kernel
theorem dX4_fund_41 : decode cX4_fund 41 = .ok (.athrow, 1) := by decide +kernel
theorem dX4_fund_42 : decode cX4_fund 42 = .ok (.aload_n 0, 1) := by decide +kernel
theorem dX4_fund_43 : decode cX4_fund 43 = .ok (.getfield 10, 3) := by decide +kernel
theorem dX4_fund_46 : decode cX4_fund 46 = .ok (.getfield 73, 3) := by decide +kernel
theorem dX4_fund_49 : decode cX4_fund 49 = .ok (.iload_n 1, 1) := by decide +kernel
theorem dX4_fund_50 : decode cX4_fund 50 = .ok (.dup2, 1) := by decide +kernel
theorem dX4_fund_51 : decode cX4_fund 51 = .ok (.iaload, 1) := by decide +kernel
theorem dX4_fund_52 : decode cX4_fund 52 = .ok (.iload_n 2, 1) := by decide +kernel
theorem dX4_fund_53 : decode cX4_fund 53 = .ok (.iadd, 1) := by decide +kernel
theorem dX4_fund_54 : decode cX4_fund 54 = .ok (.iastore, 1) := by decide +kernel
theorem dX4_fund_55 : decode cX4_fund 55 = .ok (.aload_n 0, 1) := by decide +kernel
theorem dX4_fund_56 : decode cX4_fund 56 = .ok (.getfield 10, 3) := by decide +kernel
theorem dX4_fund_59 : decode cX4_fund 59 = .ok (.getfield 73, 3) := by decide +kernel
theorem dX4_fund_62 : decode cX4_fund 62 = .ok (.iload_n 1, 1) := by decide +kernel
theorem dX4_fund_63 : decode cX4_fund 63 = .ok (.iaload, 1) := by decide +kernel
theorem dX4_fund_64 : decode cX4_fund 64 = .ok (.ireturn, 1) := by decide +kernel
set_option maxRecDepth 20000 in
theorem ggX4_setFloor_X4_requireBank : GoodIn wsX4_setFloor wsX4_requireBank := goodIn_ca (goodIn_r _ [13, 14, 15] (by decide +kernel) (by decide +kernel)) (goodIn_sub (fun _ h => List.mem_cons_of_mem _ (List.mem_append_left _ (List.mem_append_right _ h))) (by decide +kernel))
set_option maxRecDepth 20000 in
theorem gX4_setFloor_X4_requireBank : GoodIn wsX4_setFloor (va_wsS RX4 61 yX4_requireBank wsX4_requireBank) := goodIn_app (goodIn_of _ (by decide +kernel)) ggX4_setFloor_X4_requireBank
set_option maxRecDepth 20000 in
theorem ggX4_setFloor_X4_requireRange : GoodIn wsX4_setFloor wsX4_requireRange := goodIn_ca (goodIn_r _ [18, 19, 20] (by decide +kernel) (by decide +kernel)) (goodIn_sub (fun _ h => List.mem_cons_of_mem _ (List.mem_append_right _ h)) (by decide +kernel))
set_option maxRecDepth 20000 in
theorem gX4_setFloor_X4_requireRange : GoodIn wsX4_setFloor (va_wsS RX4 66 yX4_requireRange wsX4_requireRange) := goodIn_app (goodIn_of _ (by decide +kernel)) ggX4_setFloor_X4_requireRange
theorem dX4_setFloor_0 : decode cX4_setFloor 0 = .ok (.iload_n 1, 1) := by decide +kernel
theorem dX4_setFloor_1 : decode cX4_setFloor 1 = .ok (.invokestatic 61, 3) := by decide +kernel
theorem dX4_setFloor_4 : decode cX4_setFloor 4 = .ok (.iload_n 2, 1) := by decide +kernel
theorem dX4_setFloor_5 : decode cX4_setFloor 5 = .ok (.ldc 84, 2) := by decide +kernel
theorem dX4_setFloor_7 : decode cX4_setFloor 7 = .ok (.iconst 0, 1) := by decide +kernel
theorem dX4_setFloor_8 : decode cX4_setFloor 8 = .ok (.aload_n 0, 1) := by decide +kernel
theorem dX4_setFloor_9 : decode cX4_setFloor 9 = .ok (.getfield 10, 3) := by decide +kernel
theorem dX4_setFloor_12 : decode cX4_setFloor 12 = .ok (.getfield 73, 3) := by decide +kernel
theorem dX4_setFloor_15 : decode cX4_setFloor 15 = .ok (.iload_n 1, 1) := by decide +kernel
theorem dX4_setFloor_16 : decode cX4_setFloor 16 = .ok (.iaload, 1) := by decide +kernel
theorem dX4_setFloor_17 : decode cX4_setFloor 17 = .ok (.invokestatic 85, 3) := by decide +kernel
theorem dX4_setFloor_20 : decode cX4_setFloor 20 = .ok (.invokestatic 66, 3) := by decide +kernel
theorem dX4_setFloor_23 : decode cX4_setFloor 23 = .ok (.aload_n 0, 1) := by decide +kernel
theorem dX4_setFloor_24 : decode cX4_setFloor 24 = .ok (.getfield 22, 3) := by decide +kernel
theorem dX4_setFloor_27 : decode cX4_setFloor 27 = .ok (.getfield 91, 3) := by decide +kernel
theorem dX4_setFloor_30 : decode cX4_setFloor 30 = .ok (.iload_n 1, 1) := by decide +kernel
theorem dX4_setFloor_31 : decode cX4_setFloor 31 = .ok (.iaload, 1) := by decide +kernel
theorem dX4_setFloor_32 : decode cX4_setFloor 32 = .ok (.istore_n 3, 1) := by decide +kernel
theorem dX4_setFloor_33 : decode cX4_setFloor 33 = .ok (.aload_n 0, 1) := by decide +kernel
theorem dX4_setFloor_34 : decode cX4_setFloor 34 = .ok (.getfield 22, 3) := by decide +kernel
theorem dX4_setFloor_37 : decode cX4_setFloor 37 = .ok (.getfield 91, 3) := by decide +kernel
theorem dX4_setFloor_40 : decode cX4_setFloor 40 = .ok (.iload_n 1, 1) := by decide +kernel
theorem dX4_setFloor_41 : decode cX4_setFloor 41 = .ok (.iload_n 2, 1) := by decide +kernel
theorem dX4_setFloor_42 : decode cX4_setFloor 42 = .ok (.iastore, 1) := by decide +kernel
theorem dX4_setFloor_43 : decode cX4_setFloor 43 = .ok (.iload_n 3, 1) := by decide +kernel
theorem dX4_setFloor_44 : decode cX4_setFloor 44 = .ok (.ireturn, 1) := by decide +kernel
set_option maxRecDepth 20000 in
theorem ggX4_setBound_X4_requireBank : GoodIn wsX4_setBound wsX4_requireBank := goodIn_ca (goodIn_r _ [13, 14, 15] (by decide +kernel) (by decide +kernel)) (goodIn_sub (fun _ h => List.mem_cons_of_mem _ (List.mem_append_left _ (List.mem_append_right _ h))) (by decide +kernel))
set_option maxRecDepth 20000 in
theorem gX4_setBound_X4_requireBank : GoodIn wsX4_setBound (va_wsS RX4 61 yX4_requireBank wsX4_requireBank) := goodIn_app (goodIn_of _ (by decide +kernel)) ggX4_setBound_X4_requireBank
set_option maxRecDepth 20000 in
theorem ggX4_setBound_X4_requireTwo : GoodIn wsX4_setBound wsX4_requireTwo := goodIn_ca (goodIn_r _ [18, 19, 20] (by decide +kernel) (by decide +kernel)) (goodIn_sub (fun _ h => List.mem_cons_of_mem _ (List.mem_append_right _ h)) (by decide +kernel))
set_option maxRecDepth 20000 in
theorem gX4_setBound_X4_requireTwo : GoodIn wsX4_setBound (va_wsS RX4 94 yX4_requireTwo wsX4_requireTwo) := goodIn_app (goodIn_of _ (by decide +kernel)) ggX4_setBound_X4_requireTwo
set_option maxRecDepth 20000 in
theorem ggX4_setBound_X4_pairOf : GoodIn wsX4_setBound wsX4_pairOf := goodIn_r _ [23] (by decide +kernel) (by decide +kernel)
set_option maxRecDepth 20000 in
theorem gX4_setBound_X4_pairOf : GoodIn wsX4_setBound (va_wsS RX4 98 yX4_pairOf wsX4_pairOf) := goodIn_app (goodIn_of _ (by decide +kernel)) ggX4_setBound_X4_pairOf
set_option maxRecDepth 20000 in
theorem ggX4_setBound_X4_requireRange : GoodIn wsX4_setBound wsX4_requireRange := goodIn_ca (goodIn_r _ [26, 19, 20] (by decide +kernel) (by decide +kernel)) (goodIn_sub (fun _ h => List.mem_cons_of_mem _ (List.mem_append_right _ h)) (by decide +kernel))
set_option maxRecDepth 20000 in
theorem gX4_setBound_X4_requireRange : GoodIn wsX4_setBound (va_wsS RX4 66 yX4_requireRange wsX4_requireRange) := goodIn_app (goodIn_of _ (by decide +kernel)) ggX4_setBound_X4_requireRange
theorem dX4_setBound_0 : decode cX4_setBound 0 = .ok (.iload_n 1, 1) := by decide +kernel
theorem dX4_setBound_1 : decode cX4_setBound 1 = .ok (.invokestatic 61, 3) := by decide +kernel
theorem dX4_setBound_4 : decode cX4_setBound 4 = .ok (.iload_n 2, 1) := by decide +kernel
theorem dX4_setBound_5 : decode cX4_setBound 5 = .ok (.invokestatic 61, 3) := by decide +kernel
theorem dX4_setBound_8 : decode cX4_setBound 8 = .ok (.iload_n 1, 1) := by decide +kernel
theorem dX4_setBound_9 : decode cX4_setBound 9 = .ok (.iload_n 2, 1) := by decide +kernel
theorem dX4_setBound_10 : decode cX4_setBound 10 = .ok (.invokestatic 94, 3) := by decide +kernel
theorem dX4_setBound_13 : decode cX4_setBound 13 = .ok (.iload_n 1, 1) := by decide +kernel
theorem dX4_setBound_14 : decode cX4_setBound 14 = .ok (.iload_n 2, 1) := by decide +kernel
theorem dX4_setBound_15 : decode cX4_setBound 15 = .ok (.invokestatic 98, 3) := by decide +kernel
theorem dX4_setBound_18 : decode cX4_setBound 18 = .ok (.istore 4, 2) := by decide +kernel
theorem dX4_setBound_20 : decode cX4_setBound 20 = .ok (.iload_n 3, 1) := by decide +kernel
theorem dX4_setBound_21 : decode cX4_setBound 21 = .ok (.iconst 0, 1) := by decide +kernel
theorem dX4_setBound_22 : decode cX4_setBound 22 = .ok (.aload_n 0, 1) := by decide +kernel
theorem dX4_setBound_23 : decode cX4_setBound 23 = .ok (.getfield 10, 3) := by decide +kernel
theorem dX4_setBound_26 : decode cX4_setBound 26 = .ok (.getfield 101, 3) := by decide +kernel
theorem dX4_setBound_29 : decode cX4_setBound 29 = .ok (.iload 4, 2) := by decide +kernel
theorem dX4_setBound_31 : decode cX4_setBound 31 = .ok (.iaload, 1) := by decide +kernel
theorem dX4_setBound_32 : decode cX4_setBound 32 = .ok (.invokestatic 104, 3) := by decide +kernel
theorem dX4_setBound_35 : decode cX4_setBound 35 = .ok (.ldc 65, 2) := by decide +kernel
theorem dX4_setBound_37 : decode cX4_setBound 37 = .ok (.invokestatic 66, 3) := by decide +kernel
theorem dX4_setBound_40 : decode cX4_setBound 40 = .ok (.aload_n 0, 1) := by decide +kernel
theorem dX4_setBound_41 : decode cX4_setBound 41 = .ok (.getfield 22, 3) := by decide +kernel
theorem dX4_setBound_44 : decode cX4_setBound 44 = .ok (.getfield 107, 3) := by decide +kernel
theorem dX4_setBound_47 : decode cX4_setBound 47 = .ok (.iload 4, 2) := by decide +kernel
theorem dX4_setBound_49 : decode cX4_setBound 49 = .ok (.iaload, 1) := by decide +kernel
theorem dX4_setBound_50 : decode cX4_setBound 50 = .ok (.istore 5, 2) := by decide +kernel
theorem dX4_setBound_52 : decode cX4_setBound 52 = .ok (.aload_n 0, 1) := by decide +kernel
theorem dX4_setBound_53 : decode cX4_setBound 53 = .ok (.getfield 22, 3) := by decide +kernel
theorem dX4_setBound_56 : decode cX4_setBound 56 = .ok (.getfield 107, 3) := by decide +kernel
theorem dX4_setBound_59 : decode cX4_setBound 59 = .ok (.iload 4, 2) := by decide +kernel
theorem dX4_setBound_61 : decode cX4_setBound 61 = .ok (.iload_n 3, 1) := by decide +kernel
theorem dX4_setBound_62 : decode cX4_setBound 62 = .ok (.iastore, 1) := by decide +kernel
theorem dX4_setBound_63 : decode cX4_setBound 63 = .ok (.iload 5, 2) := by decide +kernel
theorem dX4_setBound_65 : decode cX4_setBound 65 = .ok (.ireturn, 1) := by decide +kernel
set_option maxRecDepth 20000 in
theorem ggX4_givePapers_X4_requireBank : GoodIn wsX4_givePapers wsX4_requireBank := goodIn_ca (goodIn_r _ [8, 9, 10] (by decide +kernel) (by decide +kernel)) (goodIn_sub (fun _ h => List.mem_cons_of_mem _ (List.mem_append_left _ (List.mem_append_right _ h))) (by decide +kernel))
set_option maxRecDepth 20000 in
theorem gX4_givePapers_X4_requireBank : GoodIn wsX4_givePapers (va_wsS RX4 61 yX4_requireBank wsX4_requireBank) := goodIn_app (goodIn_of _ (by decide +kernel)) ggX4_givePapers_X4_requireBank
set_option maxRecDepth 20000 in
theorem ggX4_givePapers_X4_requireRange : GoodIn wsX4_givePapers wsX4_requireRange := goodIn_ca (goodIn_r _ [13, 14, 15] (by decide +kernel) (by decide +kernel)) (goodIn_sub (fun _ h => List.mem_cons_of_mem _ (List.mem_append_right _ h)) (by decide +kernel))
set_option maxRecDepth 20000 in
theorem gX4_givePapers_X4_requireRange : GoodIn wsX4_givePapers (va_wsS RX4 66 yX4_requireRange wsX4_requireRange) := goodIn_app (goodIn_of _ (by decide +kernel)) ggX4_givePapers_X4_requireRange
set_option maxRecDepth 20000 in
theorem ggX4_givePapers_X4_requireOpen : GoodIn wsX4_givePapers wsX4_requireOpen := goodIn_ca (goodIn_r _ [19, 1, 2, 20, 21, 22, 23, 24, 25, 26, 27, 28, 29, 30, 31, 32] (by decide +kernel) (by decide +kernel)) (goodIn_sub (fun _ h => List.mem_cons_of_mem _ (List.mem_append_left _ (List.mem_append_left _ (List.mem_append_right _ h)))) (by decide +kernel))
set_option maxRecDepth 20000 in
theorem gX4_givePapers_X4_requireOpen : GoodIn wsX4_givePapers (wsV RX4 70 RX4 yX4_requireOpen wsX4_requireOpen) := goodIn_app (goodIn_of _ (by decide +kernel)) ggX4_givePapers_X4_requireOpen
theorem dX4_givePapers_0 : decode cX4_givePapers 0 = .ok (.iload_n 1, 1) := by decide +kernel
theorem dX4_givePapers_1 : decode cX4_givePapers 1 = .ok (.invokestatic 61, 3) := by decide +kernel
theorem dX4_givePapers_4 : decode cX4_givePapers 4 = .ok (.iload_n 2, 1) := by decide +kernel
theorem dX4_givePapers_5 : decode cX4_givePapers 5 = .ok (.iconst 1, 1) := by decide +kernel
theorem dX4_givePapers_6 : decode cX4_givePapers 6 = .ok (.sipush 1000, 3) := by decide +kernel
theorem dX4_givePapers_9 : decode cX4_givePapers 9 = .ok (.invokestatic 66, 3) := by decide +kernel
theorem dX4_givePapers_12 : decode cX4_givePapers 12 = .ok (.aload_n 0, 1) := by decide +kernel
theorem dX4_givePapers_13 : decode cX4_givePapers 13 = .ok (.iload_n 1, 1) := by decide +kernel
theorem dX4_givePapers_14 : decode cX4_givePapers 14 = .ok (.invokevirtual 70, 3) := by decide +kernel
theorem dX4_givePapers_17 : decode cX4_givePapers 17 = .ok (.aload_n 0, 1) := by decide +kernel
theorem dX4_givePapers_18 : decode cX4_givePapers 18 = .ok (.getfield 44, 3) := by decide +kernel
theorem dX4_givePapers_21 : decode cX4_givePapers 21 = .ok (.iload_n 1, 1) := by decide +kernel
theorem dX4_givePapers_22 : decode cX4_givePapers 22 = .ok (.iaload, 1) := by decide +kernel
theorem dX4_givePapers_23 : decode cX4_givePapers 23 = .ok (.iload_n 2, 1) := by decide +kernel
theorem dX4_givePapers_24 : decode cX4_givePapers 24 = .ok (.iadd, 1) := by decide +kernel
theorem dX4_givePapers_25 : decode cX4_givePapers 25 = .ok (.ldc 110, 2) := by decide +kernel
theorem dX4_givePapers_27 : decode cX4_givePapers 27 = .ok (.if_icmp .le 13, 3) := by decide +kernel
theorem dX4_givePapers_30 : decode cX4_givePapers 30 = .ok (.new 77, 3) := by decide +kernel
theorem dX4_givePapers_33 : decode cX4_givePapers 33 = .ok (.dup, 1) := by decide +kernel
theorem dX4_givePapers_34 : decode cX4_givePapers 34 = .ok (.ldc 111, 2) := by decide +kernel
theorem dX4_givePapers_36 : decode cX4_givePapers 36 = .ok (.invokespecial 81, 3) := by decide +kernel
theorem dX4_givePapers_39 : decode cX4_givePapers 39 = .ok (.athrow, 1) := by decide +kernel
theorem dX4_givePapers_40 : decode cX4_givePapers 40 = .ok (.aload_n 0, 1) := by decide +kernel
theorem dX4_givePapers_41 : decode cX4_givePapers 41 = .ok (.getfield 44, 3) := by decide +kernel
theorem dX4_givePapers_44 : decode cX4_givePapers 44 = .ok (.iload_n 1, 1) := by decide +kernel
theorem dX4_givePapers_45 : decode cX4_givePapers 45 = .ok (.dup2, 1) := by decide +kernel
theorem dX4_givePapers_46 : decode cX4_givePapers 46 = .ok (.iaload, 1) := by decide +kernel
theorem dX4_givePapers_47 : decode cX4_givePapers 47 = .ok (.iload_n 2, 1) := by decide +kernel
theorem dX4_givePapers_48 : decode cX4_givePapers 48 = .ok (.iadd, 1) := by decide +kernel
theorem dX4_givePapers_49 : decode cX4_givePapers 49 = .ok (.iastore, 1) := by decide +kernel
theorem dX4_givePapers_50 : decode cX4_givePapers 50 = .ok (.aload_n 0, 1) := by decide +kernel
theorem dX4_givePapers_51 : decode cX4_givePapers 51 = .ok (.getfield 44, 3) := by decide +kernel
theorem dX4_givePapers_54 : decode cX4_givePapers 54 = .ok (.iload_n 1, 1) := by decide +kernel
theorem dX4_givePapers_55 : decode cX4_givePapers 55 = .ok (.iaload, 1) := by decide +kernel
theorem dX4_givePapers_56 : decode cX4_givePapers 56 = .ok (.ireturn, 1) := by decide +kernel
set_option maxRecDepth 20000 in
theorem ggX4_account_X4_requireBank : GoodIn wsX4_account wsX4_requireBank := goodIn_ca (goodIn_r _ [6, 7, 8] (by decide +kernel) (by decide +kernel)) (goodIn_sub (fun _ h => List.mem_cons_of_mem _ (List.mem_append_right _ h)) (by decide +kernel))
set_option maxRecDepth 20000 in
theorem gX4_account_X4_requireBank : GoodIn wsX4_account (va_wsS RX4 61 yX4_requireBank wsX4_requireBank) := goodIn_app (goodIn_of _ (by decide +kernel)) ggX4_account_X4_requireBank
theorem dX4_account_0 : decode cX4_account 0 = .ok (.iload_n 1, 1) := by decide +kernel
theorem dX4_account_1 : decode cX4_account 1 = .ok (.invokestatic 61, 3) := by decide +kernel
theorem dX4_account_4 : decode cX4_account 4 = .ok (.aload_n 0, 1) := by decide +kernel
theorem dX4_account_5 : decode cX4_account 5 = .ok (.getfield 10, 3) := by decide +kernel
theorem dX4_account_8 : decode cX4_account 8 = .ok (.getfield 73, 3) := by decide +kernel
theorem dX4_account_11 : decode cX4_account 11 = .ok (.iload_n 1, 1) := by decide +kernel
theorem dX4_account_12 : decode cX4_account 12 = .ok (.iaload, 1) := by decide +kernel
theorem dX4_account_13 : decode cX4_account 13 = .ok (.ireturn, 1) := by decide +kernel
set_option maxRecDepth 20000 in
theorem ggX4_papers_X4_requireBank : GoodIn wsX4_papers wsX4_requireBank := goodIn_ca (goodIn_r _ [5, 6, 7] (by decide +kernel) (by decide +kernel)) (goodIn_sub (fun _ h => List.mem_cons_of_mem _ (List.mem_append_right _ h)) (by decide +kernel))
set_option maxRecDepth 20000 in
theorem gX4_papers_X4_requireBank : GoodIn wsX4_papers (va_wsS RX4 61 yX4_requireBank wsX4_requireBank) := goodIn_app (goodIn_of _ (by decide +kernel)) ggX4_papers_X4_requireBank
theorem dX4_papers_0 : decode cX4_papers 0 = .ok (.iload_n 1, 1) := by decide +kernel
theorem dX4_papers_1 : decode cX4_papers 1 = .ok (.invokestatic 61, 3) := by decide +kernel
theorem dX4_papers_4 : decode cX4_papers 4 = .ok (.aload_n 0, 1) := by decide +kernel
theorem dX4_papers_5 : decode cX4_papers 5 = .ok (.getfield 44, 3) := by decide +kernel
theorem dX4_papers_8 : decode cX4_papers 8 = .ok (.iload_n 1, 1) := by decide +kernel
theorem dX4_papers_9 : decode cX4_papers 9 = .ok (.iaload, 1) := by decide +kernel
theorem dX4_papers_10 : decode cX4_papers 10 = .ok (.ireturn, 1) := by decide +kernel
set_option maxRecDepth 20000 in
theorem ggX4_isOpen_X4_requireBank : GoodIn wsX4_isOpen wsX4_requireBank := goodIn_ca (goodIn_r _ [5, 6, 7] (by decide +kernel) (by decide +kernel)) (goodIn_sub (fun _ h => List.mem_cons_of_mem _ (List.mem_append_right _ h)) (by decide +kernel))
set_option maxRecDepth 20000 in
theorem gX4_isOpen_X4_requireBank : GoodIn wsX4_isOpen (va_wsS RX4 61 yX4_requireBank wsX4_requireBank) := goodIn_app (goodIn_of _ (by decide +kernel)) ggX4_isOpen_X4_requireBank
theorem dX4_isOpen_0 : decode cX4_isOpen 0 = .ok (.iload_n 1, 1) := by decide +kernel
theorem dX4_isOpen_1 : decode cX4_isOpen 1 = .ok (.invokestatic 61, 3) := by decide +kernel
theorem dX4_isOpen_4 : decode cX4_isOpen 4 = .ok (.aload_n 0, 1) := by decide +kernel
theorem dX4_isOpen_5 : decode cX4_isOpen 5 = .ok (.getfield 40, 3) := by decide +kernel
theorem dX4_isOpen_8 : decode cX4_isOpen 8 = .ok (.iload_n 1, 1) := by decide +kernel
theorem dX4_isOpen_9 : decode cX4_isOpen 9 = .ok (.baload, 1) := by decide +kernel
theorem dX4_isOpen_10 : decode cX4_isOpen 10 = .ok (.ifCond .ne 7, 3) := by decide +kernel
theorem dX4_isOpen_13 : decode cX4_isOpen 13 = .ok (.iconst 1, 1) := by decide +kernel
theorem dX4_isOpen_14 : decode cX4_isOpen 14 = .ok (.goto 4, 3) := by decide +kernel
theorem dX4_isOpen_17 : decode cX4_isOpen 17 = .ok (.iconst 0, 1) := by decide +kernel
theorem dX4_isOpen_18 : decode cX4_isOpen 18 = .ok (.ireturn, 1) := by decide +kernel
set_option maxRecDepth 20000 in
theorem ggX4_paid_X4_requireBank : GoodIn wsX4_paid wsX4_requireBank := goodIn_ca (goodIn_r _ [6, 7, 8] (by decide +kernel) (by decide +kernel)) (goodIn_sub (fun _ h => List.mem_cons_of_mem _ (List.mem_append_right _ h)) (by decide +kernel))
set_option maxRecDepth 20000 in
theorem gX4_paid_X4_requireBank : GoodIn wsX4_paid (va_wsS RX4 61 yX4_requireBank wsX4_requireBank) := goodIn_app (goodIn_of _ (by decide +kernel)) ggX4_paid_X4_requireBank
set_option maxRecDepth 20000 in
theorem ggX4_paid_X4_pairOf : GoodIn wsX4_paid wsX4_pairOf := goodIn_r _ [11] (by decide +kernel) (by decide +kernel)
set_option maxRecDepth 20000 in
theorem gX4_paid_X4_pairOf : GoodIn wsX4_paid (va_wsS RX4 98 yX4_pairOf wsX4_pairOf) := goodIn_app (goodIn_of _ (by decide +kernel)) ggX4_paid_X4_pairOf
theorem dX4_paid_0 : decode cX4_paid 0 = .ok (.iload_n 1, 1) := by decide +kernel
theorem dX4_paid_1 : decode cX4_paid 1 = .ok (.invokestatic 61, 3) := by decide +kernel
theorem dX4_paid_4 : decode cX4_paid 4 = .ok (.iload_n 2, 1) := by decide +kernel
theorem dX4_paid_5 : decode cX4_paid 5 = .ok (.invokestatic 61, 3) := by decide +kernel
theorem dX4_paid_8 : decode cX4_paid 8 = .ok (.aload_n 0, 1) := by decide +kernel
theorem dX4_paid_9 : decode cX4_paid 9 = .ok (.getfield 10, 3) := by decide +kernel
theorem dX4_paid_12 : decode cX4_paid 12 = .ok (.getfield 101, 3) := by decide +kernel
theorem dX4_paid_15 : decode cX4_paid 15 = .ok (.iload_n 1, 1) := by decide +kernel
theorem dX4_paid_16 : decode cX4_paid 16 = .ok (.iload_n 2, 1) := by decide +kernel
theorem dX4_paid_17 : decode cX4_paid 17 = .ok (.invokestatic 98, 3) := by decide +kernel
theorem dX4_paid_20 : decode cX4_paid 20 = .ok (.iaload, 1) := by decide +kernel
theorem dX4_paid_21 : decode cX4_paid 21 = .ok (.ireturn, 1) := by decide +kernel
set_option maxRecDepth 20000 in
theorem ggX4_pay_X4_requireBank : GoodIn wsX4_pay wsX4_requireBank := goodIn_ca (goodIn_r _ [9, 10, 11] (by decide +kernel) (by decide +kernel)) (goodIn_sub (fun _ h => List.mem_cons_of_mem _ (List.mem_append_left _ (List.mem_append_right _ h))) (by decide +kernel))
set_option maxRecDepth 20000 in
theorem gX4_pay_X4_requireBank : GoodIn wsX4_pay (va_wsS RX4 61 yX4_requireBank wsX4_requireBank) := goodIn_app (goodIn_of _ (by decide +kernel)) ggX4_pay_X4_requireBank
set_option maxRecDepth 20000 in
theorem ggX4_pay_X4_requireTwo : GoodIn wsX4_pay wsX4_requireTwo := goodIn_ca (goodIn_r _ [14, 15, 16] (by decide +kernel) (by decide +kernel)) (goodIn_sub (fun _ h => List.mem_cons_of_mem _ (List.mem_append_right _ h)) (by decide +kernel))
set_option maxRecDepth 20000 in
theorem gX4_pay_X4_requireTwo : GoodIn wsX4_pay (va_wsS RX4 94 yX4_requireTwo wsX4_requireTwo) := goodIn_app (goodIn_of _ (by decide +kernel)) ggX4_pay_X4_requireTwo
set_option maxRecDepth 20000 in
theorem ggX4_pay_X4_requireRange : GoodIn wsX4_pay wsX4_requireRange := goodIn_ca (goodIn_r _ [19, 15, 16] (by decide +kernel) (by decide +kernel)) (goodIn_sub (fun _ h => List.mem_cons_of_mem _ (List.mem_append_right _ h)) (by decide +kernel))
set_option maxRecDepth 20000 in
theorem gX4_pay_X4_requireRange : GoodIn wsX4_pay (va_wsS RX4 66 yX4_requireRange wsX4_requireRange) := goodIn_app (goodIn_of _ (by decide +kernel)) ggX4_pay_X4_requireRange
set_option maxRecDepth 20000 in
theorem ggX4_pay_X4_requireOpen : GoodIn wsX4_pay wsX4_requireOpen := goodIn_ca (goodIn_r _ [23, 1, 2, 24, 37, 38, 39, 40, 41, 42, 43, 44, 45, 46, 47, 48] (by decide +kernel) (by decide +kernel)) (goodIn_sub (fun _ h => List.mem_cons_of_mem _ (List.mem_append_left _ (List.mem_append_left _ (List.mem_append_right _ h)))) (by decide +kernel))
set_option maxRecDepth 20000 in
theorem gX4_pay_X4_requireOpen : GoodIn wsX4_pay (wsV RX4 70 RX4 yX4_requireOpen wsX4_requireOpen) := goodIn_app (goodIn_of _ (by decide +kernel)) ggX4_pay_X4_requireOpen
set_option maxRecDepth 20000 in
theorem ggX4_pay_X2_enter : GoodIn wsX4_pay wsX2_enter := goodIn_r _ [29, 30, 31, 32, 33, 34, 35, 36, 49, 50, 51, 52, 53, 54, 55] (by decide +kernel) (by decide +kernel)
set_option maxRecDepth 20000 in
theorem gX4_pay_X2_enter : GoodIn wsX4_pay (wsV RX4 118 RX2 yX2_enter wsX2_enter) := goodIn_app (goodIn_of _ (by decide +kernel)) ggX4_pay_X2_enter
theorem dX4_pay_0 : decode cX4_pay 0 = .ok (.iload_n 1, 1) := by decide +kernel
theorem dX4_pay_1 : decode cX4_pay 1 = .ok (.invokestatic 61, 3) := by decide +kernel
theorem dX4_pay_4 : decode cX4_pay 4 = .ok (.iload_n 2, 1) := by decide +kernel
theorem dX4_pay_5 : decode cX4_pay 5 = .ok (.invokestatic 61, 3) := by decide +kernel
theorem dX4_pay_8 : decode cX4_pay 8 = .ok (.iload_n 1, 1) := by decide +kernel
theorem dX4_pay_9 : decode cX4_pay 9 = .ok (.iload_n 2, 1) := by decide +kernel
theorem dX4_pay_10 : decode cX4_pay 10 = .ok (.invokestatic 94, 3) := by decide +kernel
theorem dX4_pay_13 : decode cX4_pay 13 = .ok (.iload_n 3, 1) := by decide +kernel
theorem dX4_pay_14 : decode cX4_pay 14 = .ok (.iconst 1, 1) := by decide +kernel
theorem dX4_pay_15 : decode cX4_pay 15 = .ok (.ldc 110, 2) := by decide +kernel
theorem dX4_pay_17 : decode cX4_pay 17 = .ok (.invokestatic 66, 3) := by decide +kernel
theorem dX4_pay_20 : decode cX4_pay 20 = .ok (.iload 4, 2) := by decide +kernel
theorem dX4_pay_22 : decode cX4_pay 22 = .ok (.iconst 0, 1) := by decide +kernel
theorem dX4_pay_23 : decode cX4_pay 23 = .ok (.iconst 2, 1) := by decide +kernel
theorem dX4_pay_24 : decode cX4_pay 24 = .ok (.invokestatic 66, 3) := by decide +kernel
theorem dX4_pay_27 : decode cX4_pay 27 = .ok (.aload_n 0, 1) := by decide +kernel
theorem dX4_pay_28 : decode cX4_pay 28 = .ok (.iload_n 1, 1) := by decide +kernel
theorem dX4_pay_29 : decode cX4_pay 29 = .ok (.invokevirtual 70, 3) := by decide +kernel
theorem dX4_pay_32 : decode cX4_pay 32 = .ok (.aload_n 0, 1) := by decide +kernel
theorem dX4_pay_33 : decode cX4_pay 33 = .ok (.iload_n 2, 1) := by decide +kernel
theorem dX4_pay_34 : decode cX4_pay 34 = .ok (.invokevirtual 70, 3) := by decide +kernel
theorem dX4_pay_37 : decode cX4_pay 37 = .ok (.aload_n 0, 1) := by decide +kernel
theorem dX4_pay_38 : decode cX4_pay 38 = .ok (.getfield 29, 3) := by decide +kernel
theorem dX4_pay_41 : decode cX4_pay 41 = .ok (.getfield 113, 3) := by decide +kernel
theorem dX4_pay_44 : decode cX4_pay 44 = .ok (.bipush 60, 2) := by decide +kernel
theorem dX4_pay_46 : decode cX4_pay 46 = .ok (.if_icmp .lt 13, 3) := by decide +kernel
theorem dX4_pay_49 : decode cX4_pay 49 = .ok (.new 77, 3) := by decide +kernel
theorem dX4_pay_52 : decode cX4_pay 52 = .ok (.dup, 1) := by decide +kernel
theorem dX4_pay_53 : decode cX4_pay 53 = .ok (.ldc 116, 2) := by decide +kernel
theorem dX4_pay_55 : decode cX4_pay 55 = .ok (.invokespecial 81, 3) := by decide +kernel
theorem dX4_pay_58 : decode cX4_pay 58 = .ok (.athrow, 1) := by decide +kernel
theorem dX4_pay_59 : decode cX4_pay 59 = .ok (.aload_n 0, 1) := by decide +kernel
theorem dX4_pay_60 : decode cX4_pay 60 = .ok (.getfield 29, 3) := by decide +kernel
theorem dX4_pay_63 : decode cX4_pay 63 = .ok (.iload_n 1, 1) := by decide +kernel
theorem dX4_pay_64 : decode cX4_pay 64 = .ok (.iload_n 2, 1) := by decide +kernel
theorem dX4_pay_65 : decode cX4_pay 65 = .ok (.iload_n 3, 1) := by decide +kernel
theorem dX4_pay_66 : decode cX4_pay 66 = .ok (.iload 4, 2) := by decide +kernel
theorem dX4_pay_68 : decode cX4_pay 68 = .ok (.invokevirtual 118, 3) := by decide +kernel
theorem dX4_pay_71 : decode cX4_pay 71 = .ok (.ireturn, 1) := by decide +kernel
set_option maxRecDepth 20000 in
theorem ggX4_drop_X4_requirePayment : GoodIn wsX4_drop wsX4_requirePayment := goodIn_ca (goodIn_r _ [9, 10, 11, 3, 12, 20, 21, 22, 23, 24, 25, 26, 27, 28, 29, 30, 31, 32, 33, 34, 35, 36, 37, 38] (by decide +kernel) (by decide +kernel)) (goodIn_sub (fun _ h => List.mem_cons_of_mem _ (List.mem_append_right _ h)) (by decide +kernel))
set_option maxRecDepth 20000 in
theorem gX4_drop_X4_requirePayment : GoodIn wsX4_drop (wsV RX4 122 RX4 yX4_requirePayment wsX4_requirePayment) := goodIn_app (goodIn_of _ (by decide +kernel)) ggX4_drop_X4_requirePayment
set_option maxRecDepth 20000 in
theorem ggX4_drop_X2_countWaiting : GoodIn wsX4_drop wsX2_countWaiting := goodIn_r _ [17, 18, 19, 32, 33, 34, 35, 36, 37, 38] (by decide +kernel) (by decide +kernel)
set_option maxRecDepth 20000 in
theorem gX4_drop_X2_countWaiting : GoodIn wsX4_drop (wsV RX4 130 RX2 yX2_countWaiting wsX2_countWaiting) := goodIn_app (goodIn_of _ (by decide +kernel)) ggX4_drop_X2_countWaiting
theorem dX4_drop_0 : decode cX4_drop 0 = .ok (.aload_n 0, 1) := by decide +kernel
theorem dX4_drop_1 : decode cX4_drop 1 = .ok (.iload_n 1, 1) := by decide +kernel
theorem dX4_drop_2 : decode cX4_drop 2 = .ok (.invokevirtual 122, 3) := by decide +kernel
theorem dX4_drop_5 : decode cX4_drop 5 = .ok (.aload_n 0, 1) := by decide +kernel
theorem dX4_drop_6 : decode cX4_drop 6 = .ok (.getfield 29, 3) := by decide +kernel
theorem dX4_drop_9 : decode cX4_drop 9 = .ok (.getfield 125, 3) := by decide +kernel
theorem dX4_drop_12 : decode cX4_drop 12 = .ok (.iload_n 1, 1) := by decide +kernel
theorem dX4_drop_13 : decode cX4_drop 13 = .ok (.baload, 1) := by decide +kernel
theorem dX4_drop_14 : decode cX4_drop 14 = .ok (.ifCond .ne 13, 3) := by decide +kernel
theorem dX4_drop_17 : decode cX4_drop 17 = .ok (.new 77, 3) := by decide +kernel
theorem dX4_drop_20 : decode cX4_drop 20 = .ok (.dup, 1) := by decide +kernel
theorem dX4_drop_21 : decode cX4_drop 21 = .ok (.ldc 128, 2) := by decide +kernel
theorem dX4_drop_23 : decode cX4_drop 23 = .ok (.invokespecial 81, 3) := by decide +kernel
theorem dX4_drop_26 : decode cX4_drop 26 = .ok (.athrow, 1) := by decide +kernel
theorem dX4_drop_27 : decode cX4_drop 27 = .ok (.aload_n 0, 1) := by decide +kernel
theorem dX4_drop_28 : decode cX4_drop 28 = .ok (.getfield 29, 3) := by decide +kernel
theorem dX4_drop_31 : decode cX4_drop 31 = .ok (.getfield 125, 3) := by decide +kernel
theorem dX4_drop_34 : decode cX4_drop 34 = .ok (.iload_n 1, 1) := by decide +kernel
theorem dX4_drop_35 : decode cX4_drop 35 = .ok (.iconst 0, 1) := by decide +kernel
theorem dX4_drop_36 : decode cX4_drop 36 = .ok (.bastore, 1) := by decide +kernel
theorem dX4_drop_37 : decode cX4_drop 37 = .ok (.aload_n 0, 1) := by decide +kernel
theorem dX4_drop_38 : decode cX4_drop 38 = .ok (.getfield 29, 3) := by decide +kernel
theorem dX4_drop_41 : decode cX4_drop 41 = .ok (.invokevirtual 130, 3) := by decide +kernel
theorem dX4_drop_44 : decode cX4_drop 44 = .ok (.ireturn, 1) := by decide +kernel
set_option maxRecDepth 20000 in
theorem ggX4_setSmall_X4_requireRange : GoodIn wsX4_setSmall wsX4_requireRange := goodIn_ca (goodIn_r _ [6, 7, 8] (by decide +kernel) (by decide +kernel)) (goodIn_sub (fun _ h => List.mem_cons_of_mem _ (List.mem_append_right _ h)) (by decide +kernel))
set_option maxRecDepth 20000 in
theorem gX4_setSmall_X4_requireRange : GoodIn wsX4_setSmall (va_wsS RX4 66 yX4_requireRange wsX4_requireRange) := goodIn_app (goodIn_of _ (by decide +kernel)) ggX4_setSmall_X4_requireRange
theorem dX4_setSmall_0 : decode cX4_setSmall 0 = .ok (.iload_n 1, 1) := by decide +kernel
theorem dX4_setSmall_1 : decode cX4_setSmall 1 = .ok (.iconst 0, 1) := by decide +kernel
theorem dX4_setSmall_2 : decode cX4_setSmall 2 = .ok (.ldc 110, 2) := by decide +kernel
theorem dX4_setSmall_4 : decode cX4_setSmall 4 = .ok (.invokestatic 66, 3) := by decide +kernel
theorem dX4_setSmall_7 : decode cX4_setSmall 7 = .ok (.aload_n 0, 1) := by decide +kernel
theorem dX4_setSmall_8 : decode cX4_setSmall 8 = .ok (.getfield 51, 3) := by decide +kernel
theorem dX4_setSmall_11 : decode cX4_setSmall 11 = .ok (.istore_n 2, 1) := by decide +kernel
theorem dX4_setSmall_12 : decode cX4_setSmall 12 = .ok (.aload_n 0, 1) := by decide +kernel
theorem dX4_setSmall_13 : decode cX4_setSmall 13 = .ok (.iload_n 1, 1) := by decide +kernel
theorem dX4_setSmall_14 : decode cX4_setSmall 14 = .ok (.putfield 51, 3) := by decide +kernel
theorem dX4_setSmall_17 : decode cX4_setSmall 17 = .ok (.iload_n 2, 1) := by decide +kernel
theorem dX4_setSmall_18 : decode cX4_setSmall 18 = .ok (.ireturn, 1) := by decide +kernel
set_option maxRecDepth 20000 in
theorem ggX4_run_X4_goThroughBanks : GoodIn wsX4_run wsX4_goThroughBanks := goodIn_r _ [5, 6, 7, 8, 4, 9, 10, 11, 12, 13, 14, 15, 16, 17, 18, 19, 20, 21, 22, 23, 24, 25, 26, 27, 28, 29, 30, 31, 32, 33, 34, 35, 36, 37, 38, 39, 40, 41, 42, 43, 44, 45, 46, 47, 48, 49, 50, 51, 52, 53, 54, 55, 56, 57, 58, 59, 60, 61, 62, 63, 64, 65, 66, 67, 68, 69, 107, 108, 109, 110, 111, 112, 113, 114, 115, 116, 117, 118, 119, 120, 121, 122, 123, 124, 125, 126, 127, 128, 129] (by decide +kernel) (by decide +kernel)
set_option maxRecDepth 20000 in
theorem gX4_run_X4_goThroughBanks : GoodIn wsX4_run (wsV RX4 134 RX4 yX4_goThroughBanks wsX4_goThroughBanks) := goodIn_app (goodIn_of _ (by decide +kernel)) ggX4_run_X4_goThroughBanks
set_option maxRecDepth 20000 in
theorem ggX4_run_X4_sendLargestSet : GoodIn wsX4_run wsX4_sendLargestSet := goodIn_r _ [73, 74, 10, 11, 12, 13, 14, 15, 16, 17, 18, 19, 20, 21, 22, 23, 75, 76, 77, 78, 79, 80, 81, 82, 83, 84, 4, 85, 86, 31, 33, 87, 88, 89, 62, 90, 64, 91, 92, 93, 94, 69, 95, 96, 97, 53, 54, 55, 56, 57, 58, 59, 60, 61, 63, 65, 66, 67, 68, 39, 40, 98, 99, 100, 101, 102, 103, 104, 105, 106, 49, 50, 51, 52, 28, 107, 108, 109, 110, 111, 112, 113, 114, 115, 116, 117, 118, 119, 120, 121, 122, 123, 124, 125, 126, 127, 128, 129] (by decide +kernel) (by decide +kernel)
set_option maxRecDepth 20000 in
theorem gX4_run_X4_sendLargestSet : GoodIn wsX4_run (wsV RX4 137 RX4 yX4_sendLargestSet wsX4_sendLargestSet) := goodIn_app (goodIn_of _ (by decide +kernel)) ggX4_run_X4_sendLargestSet
theorem dX4_run_0 : decode cX4_run 0 = .ok (.iconst 0, 1) := by decide +kernel
theorem dX4_run_1 : decode cX4_run 1 = .ok (.istore_n 1, 1) := by decide +kernel
theorem dX4_run_2 : decode cX4_run 2 = .ok (.iconst 0, 1) := by decide +kernel
theorem dX4_run_3 : decode cX4_run 3 = .ok (.istore_n 2, 1) := by decide +kernel
theorem dX4_run_4 : decode cX4_run 4 = .ok (.iload_n 2, 1) := by decide +kernel
theorem dX4_run_5 : decode cX4_run 5 = .ok (.bipush 60, 2) := by decide +kernel
theorem dX4_run_7 : decode cX4_run 7 = .ok (.if_icmp .gt 33, 3) := by decide +kernel
theorem dX4_run_10 : decode cX4_run 10 = .ok (.aload_n 0, 1) := by decide +kernel
theorem dX4_run_11 : decode cX4_run 11 = .ok (.invokevirtual 134, 3) := by decide +kernel
theorem dX4_run_14 : decode cX4_run 14 = .ok (.istore_n 3, 1) := by decide +kernel
theorem dX4_run_15 : decode cX4_run 15 = .ok (.iload_n 3, 1) := by decide +kernel
theorem dX4_run_16 : decode cX4_run 16 = .ok (.ifCond .ne 8, 3) := by decide +kernel
theorem dX4_run_19 : decode cX4_run 19 = .ok (.aload_n 0, 1) := by decide +kernel
theorem dX4_run_20 : decode cX4_run 20 = .ok (.invokevirtual 137, 3) := by decide +kernel
theorem dX4_run_23 : decode cX4_run 23 = .ok (.istore_n 3, 1) := by decide +kernel
theorem dX4_run_24 : decode cX4_run 24 = .ok (.iload_n 3, 1) := by decide +kernel
theorem dX4_run_25 : decode cX4_run 25 = .ok (.ifCond .ne 5, 3) := by decide +kernel
theorem dX4_run_28 : decode cX4_run 28 = .ok (.iload_n 1, 1) := by decide +kernel
theorem dX4_run_29 : decode cX4_run 29 = .ok (.ireturn, 1) := by decide +kernel
theorem dX4_run_30 : decode cX4_run 30 = .ok (.iload_n 1, 1) := by decide +kernel
theorem dX4_run_31 : decode cX4_run 31 = .ok (.iload_n 3, 1) := by decide +kernel
theorem dX4_run_32 : decode cX4_run 32 = .ok (.iadd, 1) := by decide +kernel
theorem dX4_run_33 : decode cX4_run 33 = .ok (.istore_n 1, 1) := by decide +kernel
theorem dX4_run_34 : decode cX4_run 34 = .ok (.iinc 2 1, 3) := by decide +kernel
theorem dX4_run_37 : decode cX4_run 37 = .ok (.goto (-33), 3) := by decide +kernel
theorem dX4_run_40 : decode cX4_run 40 = .ok (.iload_n 1, 1) := by decide +kernel
theorem dX4_run_41 : decode cX4_run 41 = .ok (.ireturn, 1) := by decide +kernel
set_option maxRecDepth 20000 in
theorem ggX4_queued_X4_requireBank : GoodIn wsX4_queued wsX4_requireBank := goodIn_ca (goodIn_r _ [7, 1, 2] (by decide +kernel) (by decide +kernel)) (goodIn_sub (fun _ h => List.mem_cons_of_mem _ (List.mem_append_right _ h)) (by decide +kernel))
set_option maxRecDepth 20000 in
theorem gX4_queued_X4_requireBank : GoodIn wsX4_queued (va_wsS RX4 61 yX4_requireBank wsX4_requireBank) := goodIn_app (goodIn_of _ (by decide +kernel)) ggX4_queued_X4_requireBank
set_option maxRecDepth 20000 in
theorem ggX4_queued_X2_inQueue : GoodIn wsX4_queued wsX2_inQueue := goodIn_r _ [12, 13, 14, 15, 16, 17, 11, 18, 19, 20, 33, 34, 35, 36, 37, 38, 39] (by decide +kernel) (by decide +kernel)
set_option maxRecDepth 20000 in
theorem gX4_queued_X2_inQueue : GoodIn wsX4_queued (wsV RX4 145 RX2 yX2_inQueue wsX2_inQueue) := goodIn_app (goodIn_of _ (by decide +kernel)) ggX4_queued_X2_inQueue
theorem dX4_queued_0 : decode cX4_queued 0 = .ok (.iload_n 1, 1) := by decide +kernel
theorem dX4_queued_1 : decode cX4_queued 1 = .ok (.invokestatic 61, 3) := by decide +kernel
theorem dX4_queued_4 : decode cX4_queued 4 = .ok (.iload_n 2, 1) := by decide +kernel
theorem dX4_queued_5 : decode cX4_queued 5 = .ok (.ifCond .ge 13, 3) := by decide +kernel
theorem dX4_queued_8 : decode cX4_queued 8 = .ok (.new 140, 3) := by decide +kernel
theorem dX4_queued_11 : decode cX4_queued 11 = .ok (.dup, 1) := by decide +kernel
theorem dX4_queued_12 : decode cX4_queued 12 = .ok (.ldc 142, 2) := by decide +kernel
theorem dX4_queued_14 : decode cX4_queued 14 = .ok (.invokespecial 144, 3) := by decide +kernel
theorem dX4_queued_17 : decode cX4_queued 17 = .ok (.athrow, 1) := by decide +kernel
theorem dX4_queued_18 : decode cX4_queued 18 = .ok (.aload_n 0, 1) := by decide +kernel
theorem dX4_queued_19 : decode cX4_queued 19 = .ok (.getfield 29, 3) := by decide +kernel
theorem dX4_queued_22 : decode cX4_queued 22 = .ok (.iload_n 1, 1) := by decide +kernel
theorem dX4_queued_23 : decode cX4_queued 23 = .ok (.iload_n 2, 1) := by decide +kernel
theorem dX4_queued_24 : decode cX4_queued 24 = .ok (.invokevirtual 145, 3) := by decide +kernel
theorem dX4_queued_27 : decode cX4_queued 27 = .ok (.ireturn, 1) := by decide +kernel
set_option maxRecDepth 20000 in
theorem ggX4_why_X4_requirePayment : GoodIn wsX4_why wsX4_requirePayment := goodIn_ca (goodIn_r _ [5, 6, 7, 8, 9, 27, 28, 29, 30, 31, 32, 33, 34, 35, 36, 37, 38, 39, 40, 41, 42, 43, 44, 45] (by decide +kernel) (by decide +kernel)) (goodIn_sub (fun _ h => List.mem_cons_of_mem _ (List.mem_append_right _ h)) (by decide +kernel))
set_option maxRecDepth 20000 in
theorem gX4_why_X4_requirePayment : GoodIn wsX4_why (wsV RX4 122 RX4 yX4_requirePayment wsX4_requirePayment) := goodIn_app (goodIn_of _ (by decide +kernel)) ggX4_why_X4_requirePayment
set_option maxRecDepth 20000 in
theorem ggX4_why_X4_obstacle : GoodIn wsX4_why wsX4_obstacle := goodIn_r _ [13, 8, 14, 15, 16, 17, 18, 19, 20, 21, 22, 23, 24, 25, 4, 26, 27, 28, 29, 30, 31, 32, 33, 34, 35, 36, 37, 38, 39, 40, 41, 42, 43, 44, 45, 46, 47, 48, 49] (by decide +kernel) (by decide +kernel)
set_option maxRecDepth 20000 in
theorem gX4_why_X4_obstacle : GoodIn wsX4_why (wsV RX4 148 RX4 yX4_obstacle wsX4_obstacle) := goodIn_app (goodIn_of _ (by decide +kernel)) ggX4_why_X4_obstacle
theorem dX4_why_0 : decode cX4_why 0 = .ok (.aload_n 0, 1) := by decide +kernel
theorem dX4_why_1 : decode cX4_why 1 = .ok (.iload_n 1, 1) := by decide +kernel
theorem dX4_why_2 : decode cX4_why 2 = .ok (.invokevirtual 122, 3) := by decide +kernel
theorem dX4_why_5 : decode cX4_why 5 = .ok (.aload_n 0, 1) := by decide +kernel
theorem dX4_why_6 : decode cX4_why 6 = .ok (.iload_n 1, 1) := by decide +kernel
theorem dX4_why_7 : decode cX4_why 7 = .ok (.invokevirtual 148, 3) := by decide +kernel
theorem dX4_why_10 : decode cX4_why 10 = .ok (.ireturn, 1) := by decide +kernel
set_option maxRecDepth 20000 in
theorem ggX4_canAny_X2_countWaiting : GoodIn wsX4_canAny wsX2_countWaiting := goodIn_r _ [8, 9, 10, 78, 79, 80, 81, 82, 83, 84] (by decide +kernel) (by decide +kernel)
set_option maxRecDepth 20000 in
theorem gX4_canAny_X2_countWaiting : GoodIn wsX4_canAny (wsV RX4 130 RX2 yX2_countWaiting wsX2_countWaiting) := goodIn_app (goodIn_of _ (by decide +kernel)) ggX4_canAny_X2_countWaiting
set_option maxRecDepth 20000 in
theorem ggX4_canAny_X4_listWaiting : GoodIn wsX4_canAny wsX4_listWaiting := goodIn_r _ [15, 3, 16, 17, 18, 66, 67, 68, 69, 70, 71, 72, 73, 74, 75, 76, 77, 78, 79, 80, 81, 82, 83, 84] (by decide +kernel) (by decide +kernel)
set_option maxRecDepth 20000 in
theorem gX4_canAny_X4_listWaiting : GoodIn wsX4_canAny (wsV RX4 154 RX4 yX4_listWaiting wsX4_listWaiting) := goodIn_app (goodIn_of _ (by decide +kernel)) ggX4_canAny_X4_listWaiting
set_option maxRecDepth 20000 in
theorem ggX4_canAny_X4_canGoTogether : GoodIn wsX4_canAny wsX4_canGoTogether := goodIn_r _ [22, 23, 24, 18, 3, 25, 26, 27, 28, 29, 30, 31, 32, 33, 34, 35, 36, 37, 38, 14, 39, 40, 41, 42, 7, 43, 44, 45, 46, 47, 48, 49, 50, 51, 52, 53, 54, 55, 56, 57, 58, 59, 60, 61, 62, 63, 64, 65, 66, 67, 68, 69, 70, 71, 72, 73, 74, 75, 76, 77, 85, 86, 78, 79, 80, 81, 82, 83, 84, 87, 88] (by decide +kernel) (by decide +kernel)
set_option maxRecDepth 20000 in
theorem gX4_canAny_X4_canGoTogether : GoodIn wsX4_canAny (wsV RX4 157 RX4 yX4_canGoTogether wsX4_canGoTogether) := goodIn_app (goodIn_of _ (by decide +kernel)) ggX4_canAny_X4_canGoTogether
theorem dX4_canAny_0 : decode cX4_canAny 0 = .ok (.aload_n 0, 1) := by decide +kernel
theorem dX4_canAny_1 : decode cX4_canAny 1 = .ok (.getfield 29, 3) := by decide +kernel
theorem dX4_canAny_4 : decode cX4_canAny 4 = .ok (.invokevirtual 130, 3) := by decide +kernel
theorem dX4_canAny_7 : decode cX4_canAny 7 = .ok (.bipush 10, 2) := by decide +kernel
theorem dX4_canAny_9 : decode cX4_canAny 9 = .ok (.if_icmp .le 13, 3) := by decide +kernel
theorem dX4_canAny_12 : decode cX4_canAny 12 = .ok (.new 77, 3) := by decide +kernel
theorem dX4_canAny_15 : decode cX4_canAny 15 = .ok (.dup, 1) := by decide +kernel
theorem dX4_canAny_16 : decode cX4_canAny 16 = .ok (.ldc 152, 2) := by decide +kernel
theorem dX4_canAny_18 : decode cX4_canAny 18 = .ok (.invokespecial 81, 3) := by decide +kernel
theorem dX4_canAny_21 : decode cX4_canAny 21 = .ok (.athrow, 1) := by decide +kernel
theorem dX4_canAny_22 : decode cX4_canAny 22 = .ok (.aload_n 0, 1) := by decide +kernel
theorem dX4_canAny_23 : decode cX4_canAny 23 = .ok (.invokevirtual 154, 3) := by decide +kernel
theorem dX4_canAny_26 : decode cX4_canAny 26 = .ok (.istore_n 1, 1) := by decide +kernel
theorem dX4_canAny_27 : decode cX4_canAny 27 = .ok (.iconst 1, 1) := by decide +kernel
theorem dX4_canAny_28 : decode cX4_canAny 28 = .ok (.istore_n 2, 1) := by decide +kernel
theorem dX4_canAny_29 : decode cX4_canAny 29 = .ok (.iload_n 2, 1) := by decide +kernel
theorem dX4_canAny_30 : decode cX4_canAny 30 = .ok (.iconst 1, 1) := by decide +kernel
theorem dX4_canAny_31 : decode cX4_canAny 31 = .ok (.iload_n 1, 1) := by decide +kernel
theorem dX4_canAny_32 : decode cX4_canAny 32 = .ok (.ishl, 1) := by decide +kernel
theorem dX4_canAny_33 : decode cX4_canAny 33 = .ok (.if_icmp .ge 20, 3) := by decide +kernel
theorem dX4_canAny_36 : decode cX4_canAny 36 = .ok (.aload_n 0, 1) := by decide +kernel
theorem dX4_canAny_37 : decode cX4_canAny 37 = .ok (.iload_n 2, 1) := by decide +kernel
theorem dX4_canAny_38 : decode cX4_canAny 38 = .ok (.iload_n 1, 1) := by decide +kernel
theorem dX4_canAny_39 : decode cX4_canAny 39 = .ok (.invokevirtual 157, 3) := by decide +kernel
theorem dX4_canAny_42 : decode cX4_canAny 42 = .ok (.ifCond .eq 5, 3) := by decide +kernel
theorem dX4_canAny_45 : decode cX4_canAny 45 = .ok (.iconst 1, 1) := by decide +kernel
theorem dX4_canAny_46 : decode cX4_canAny 46 = .ok (.ireturn, 1) := by decide +kernel
theorem dX4_canAny_47 : decode cX4_canAny 47 = .ok (.iinc 2 1, 3) := by decide +kernel
theorem dX4_canAny_50 : decode cX4_canAny 50 = .ok (.goto (-21), 3) := by decide +kernel
theorem dX4_canAny_53 : decode cX4_canAny 53 = .ok (.iconst 0, 1) := by decide +kernel
theorem dX4_canAny_54 : decode cX4_canAny 54 = .ok (.ireturn, 1) := by decide +kernel
set_option maxRecDepth 20000 in
theorem ggX4_setPrice_X4_requireRange : GoodIn wsX4_setPrice wsX4_requireRange := goodIn_ca (goodIn_r _ [6, 7, 8] (by decide +kernel) (by decide +kernel)) (goodIn_sub (fun _ h => List.mem_cons_of_mem _ (List.mem_append_right _ h)) (by decide +kernel))
set_option maxRecDepth 20000 in
theorem gX4_setPrice_X4_requireRange : GoodIn wsX4_setPrice (va_wsS RX4 66 yX4_requireRange wsX4_requireRange) := goodIn_app (goodIn_of _ (by decide +kernel)) ggX4_setPrice_X4_requireRange
theorem dX4_setPrice_0 : decode cX4_setPrice 0 = .ok (.iload_n 1, 1) := by decide +kernel
theorem dX4_setPrice_1 : decode cX4_setPrice 1 = .ok (.iconst 1, 1) := by decide +kernel
theorem dX4_setPrice_2 : decode cX4_setPrice 2 = .ok (.sipush 1000, 3) := by decide +kernel
theorem dX4_setPrice_5 : decode cX4_setPrice 5 = .ok (.invokestatic 66, 3) := by decide +kernel
theorem dX4_setPrice_8 : decode cX4_setPrice 8 = .ok (.iload_n 2, 1) := by decide +kernel
theorem dX4_setPrice_9 : decode cX4_setPrice 9 = .ok (.iconst 0, 1) := by decide +kernel
theorem dX4_setPrice_10 : decode cX4_setPrice 10 = .ok (.sipush 1000, 3) := by decide +kernel
theorem dX4_setPrice_13 : decode cX4_setPrice 13 = .ok (.invokestatic 66, 3) := by decide +kernel
theorem dX4_setPrice_16 : decode cX4_setPrice 16 = .ok (.aload_n 0, 1) := by decide +kernel
theorem dX4_setPrice_17 : decode cX4_setPrice 17 = .ok (.iload_n 1, 1) := by decide +kernel
theorem dX4_setPrice_18 : decode cX4_setPrice 18 = .ok (.putfield 55, 3) := by decide +kernel
theorem dX4_setPrice_21 : decode cX4_setPrice 21 = .ok (.aload_n 0, 1) := by decide +kernel
theorem dX4_setPrice_22 : decode cX4_setPrice 22 = .ok (.iload_n 2, 1) := by decide +kernel
theorem dX4_setPrice_23 : decode cX4_setPrice 23 = .ok (.putfield 58, 3) := by decide +kernel
theorem dX4_setPrice_26 : decode cX4_setPrice 26 = .ok (.return_, 1) := by decide +kernel
set_option maxRecDepth 20000 in
theorem ggX4_lend_X4_requireBank : GoodIn wsX4_lend wsX4_requireBank := goodIn_ca (goodIn_r _ [8, 9, 10] (by decide +kernel) (by decide +kernel)) (goodIn_sub (fun _ h => List.mem_cons_of_mem _ (List.mem_append_left _ (List.mem_append_left _ (List.mem_append_right _ h)))) (by decide +kernel))
set_option maxRecDepth 20000 in
theorem gX4_lend_X4_requireBank : GoodIn wsX4_lend (va_wsS RX4 61 yX4_requireBank wsX4_requireBank) := goodIn_app (goodIn_of _ (by decide +kernel)) ggX4_lend_X4_requireBank
set_option maxRecDepth 20000 in
theorem ggX4_lend_X4_requireTwo : GoodIn wsX4_lend wsX4_requireTwo := goodIn_ca (goodIn_r _ [13, 14, 15] (by decide +kernel) (by decide +kernel)) (goodIn_sub (fun _ h => List.mem_cons_of_mem _ (List.mem_append_left _ (List.mem_append_right _ h))) (by decide +kernel))
set_option maxRecDepth 20000 in
theorem gX4_lend_X4_requireTwo : GoodIn wsX4_lend (va_wsS RX4 94 yX4_requireTwo wsX4_requireTwo) := goodIn_app (goodIn_of _ (by decide +kernel)) ggX4_lend_X4_requireTwo
set_option maxRecDepth 20000 in
theorem ggX4_lend_X4_requireRange : GoodIn wsX4_lend wsX4_requireRange := goodIn_ca (goodIn_r _ [18, 14, 15] (by decide +kernel) (by decide +kernel)) (goodIn_sub (fun _ h => List.mem_cons_of_mem _ (List.mem_append_left _ (List.mem_append_right _ h))) (by decide +kernel))
set_option maxRecDepth 20000 in
theorem gX4_lend_X4_requireRange : GoodIn wsX4_lend (va_wsS RX4 66 yX4_requireRange wsX4_requireRange) := goodIn_app (goodIn_of _ (by decide +kernel)) ggX4_lend_X4_requireRange
set_option maxRecDepth 20000 in
theorem ggX4_lend_X4_requireOpen : GoodIn wsX4_lend wsX4_requireOpen := goodIn_ca (goodIn_r _ [22, 23, 24, 25, 56, 57, 58, 59, 60, 61, 62, 63, 64, 65, 66, 67] (by decide +kernel) (by decide +kernel)) (goodIn_sub (fun _ h => List.mem_cons_of_mem _ (List.mem_append_right _ h)) (by decide +kernel))
set_option maxRecDepth 20000 in
theorem gX4_lend_X4_requireOpen : GoodIn wsX4_lend (wsV RX4 70 RX4 yX4_requireOpen wsX4_requireOpen) := goodIn_app (goodIn_of _ (by decide +kernel)) ggX4_lend_X4_requireOpen
set_option maxRecDepth 20000 in
theorem ggX4_lend_X4_requireLoanable : GoodIn wsX4_lend wsX4_requireLoanable := goodIn_ca (goodIn_r _ [29, 23, 24, 4, 30, 3, 2, 31, 32, 33, 34, 35, 36, 7, 37, 38, 39, 56, 57, 58, 59, 60, 61, 62, 63, 64, 65, 66, 67, 68, 69, 70, 71, 72, 73, 74, 75, 76, 77] (by decide +kernel) (by decide +kernel)) (goodIn_sub (fun _ h => List.mem_cons_of_mem _ (List.mem_append_right _ h)) (by decide +kernel))
set_option maxRecDepth 20000 in
theorem gX4_lend_X4_requireLoanable : GoodIn wsX4_lend (wsV RX4 161 RX4 yX4_requireLoanable wsX4_requireLoanable) := goodIn_app (goodIn_of _ (by decide +kernel)) ggX4_lend_X4_requireLoanable
set_option maxRecDepth 20000 in
theorem ggX4_lend_X3_move : GoodIn wsX4_lend wsX3_move := goodIn_r _ [44, 45, 74, 75] (by decide +kernel) (by decide +kernel)
set_option maxRecDepth 20000 in
theorem gX4_lend_X3_move : GoodIn wsX4_lend (wsV RX4 165 RX3 yX3_move wsX3_move) := goodIn_app (goodIn_of _ (by decide +kernel)) ggX4_lend_X3_move
set_option maxRecDepth 20000 in
theorem ggX4_lend_X1_enter : GoodIn wsX4_lend wsX1_enter := goodIn_r _ [50, 51, 52, 53, 54, 55, 68, 69, 70, 71, 72, 73] (by decide +kernel) (by decide +kernel)
set_option maxRecDepth 20000 in
theorem gX4_lend_X1_enter : GoodIn wsX4_lend (wsV RX4 168 RX1 yX1_enter wsX1_enter) := goodIn_app (goodIn_of _ (by decide +kernel)) ggX4_lend_X1_enter
theorem dX4_lend_0 : decode cX4_lend 0 = .ok (.iload_n 1, 1) := by decide +kernel
theorem dX4_lend_1 : decode cX4_lend 1 = .ok (.invokestatic 61, 3) := by decide +kernel
theorem dX4_lend_4 : decode cX4_lend 4 = .ok (.iload_n 2, 1) := by decide +kernel
theorem dX4_lend_5 : decode cX4_lend 5 = .ok (.invokestatic 61, 3) := by decide +kernel
theorem dX4_lend_8 : decode cX4_lend 8 = .ok (.iload_n 1, 1) := by decide +kernel
theorem dX4_lend_9 : decode cX4_lend 9 = .ok (.iload_n 2, 1) := by decide +kernel
theorem dX4_lend_10 : decode cX4_lend 10 = .ok (.invokestatic 94, 3) := by decide +kernel
theorem dX4_lend_13 : decode cX4_lend 13 = .ok (.iload_n 3, 1) := by decide +kernel
theorem dX4_lend_14 : decode cX4_lend 14 = .ok (.iconst 1, 1) := by decide +kernel
theorem dX4_lend_15 : decode cX4_lend 15 = .ok (.ldc 110, 2) := by decide +kernel
theorem dX4_lend_17 : decode cX4_lend 17 = .ok (.invokestatic 66, 3) := by decide +kernel
theorem dX4_lend_20 : decode cX4_lend 20 = .ok (.iload 4, 2) := by decide +kernel
theorem dX4_lend_22 : decode cX4_lend 22 = .ok (.iconst 0, 1) := by decide +kernel
theorem dX4_lend_23 : decode cX4_lend 23 = .ok (.sipush 200, 3) := by decide +kernel
theorem dX4_lend_26 : decode cX4_lend 26 = .ok (.invokestatic 66, 3) := by decide +kernel
theorem dX4_lend_29 : decode cX4_lend 29 = .ok (.iload 5, 2) := by decide +kernel
theorem dX4_lend_31 : decode cX4_lend 31 = .ok (.iconst 0, 1) := by decide +kernel
theorem dX4_lend_32 : decode cX4_lend 32 = .ok (.sipush 1000, 3) := by decide +kernel
theorem dX4_lend_35 : decode cX4_lend 35 = .ok (.invokestatic 66, 3) := by decide +kernel
theorem dX4_lend_38 : decode cX4_lend 38 = .ok (.aload_n 0, 1) := by decide +kernel
theorem dX4_lend_39 : decode cX4_lend 39 = .ok (.iload_n 1, 1) := by decide +kernel
theorem dX4_lend_40 : decode cX4_lend 40 = .ok (.invokevirtual 70, 3) := by decide +kernel
theorem dX4_lend_43 : decode cX4_lend 43 = .ok (.aload_n 0, 1) := by decide +kernel
theorem dX4_lend_44 : decode cX4_lend 44 = .ok (.iload_n 2, 1) := by decide +kernel
theorem dX4_lend_45 : decode cX4_lend 45 = .ok (.invokevirtual 70, 3) := by decide +kernel
theorem dX4_lend_48 : decode cX4_lend 48 = .ok (.aload_n 0, 1) := by decide +kernel
theorem dX4_lend_49 : decode cX4_lend 49 = .ok (.iload_n 1, 1) := by decide +kernel
theorem dX4_lend_50 : decode cX4_lend 50 = .ok (.iload_n 2, 1) := by decide +kernel
theorem dX4_lend_51 : decode cX4_lend 51 = .ok (.iload_n 3, 1) := by decide +kernel
theorem dX4_lend_52 : decode cX4_lend 52 = .ok (.iload 5, 2) := by decide +kernel
theorem dX4_lend_54 : decode cX4_lend 54 = .ok (.invokevirtual 161, 3) := by decide +kernel
theorem dX4_lend_57 : decode cX4_lend 57 = .ok (.aload_n 0, 1) := by decide +kernel
theorem dX4_lend_58 : decode cX4_lend 58 = .ok (.getfield 10, 3) := by decide +kernel
theorem dX4_lend_61 : decode cX4_lend 61 = .ok (.iload_n 1, 1) := by decide +kernel
theorem dX4_lend_62 : decode cX4_lend 62 = .ok (.iload_n 2, 1) := by decide +kernel
theorem dX4_lend_63 : decode cX4_lend 63 = .ok (.iload_n 3, 1) := by decide +kernel
theorem dX4_lend_64 : decode cX4_lend 64 = .ok (.invokevirtual 165, 3) := by decide +kernel
theorem dX4_lend_67 : decode cX4_lend 67 = .ok (.aload_n 0, 1) := by decide +kernel
theorem dX4_lend_68 : decode cX4_lend 68 = .ok (.getfield 44, 3) := by decide +kernel
theorem dX4_lend_71 : decode cX4_lend 71 = .ok (.iload_n 2, 1) := by decide +kernel
theorem dX4_lend_72 : decode cX4_lend 72 = .ok (.dup2, 1) := by decide +kernel
theorem dX4_lend_73 : decode cX4_lend 73 = .ok (.iaload, 1) := by decide +kernel
theorem dX4_lend_74 : decode cX4_lend 74 = .ok (.iload 5, 2) := by decide +kernel
theorem dX4_lend_76 : decode cX4_lend 76 = .ok (.isub, 1) := by decide +kernel
theorem dX4_lend_77 : decode cX4_lend 77 = .ok (.iastore, 1) := by decide +kernel
theorem dX4_lend_78 : decode cX4_lend 78 = .ok (.aload_n 0, 1) := by decide +kernel
theorem dX4_lend_79 : decode cX4_lend 79 = .ok (.getfield 36, 3) := by decide +kernel
theorem dX4_lend_82 : decode cX4_lend 82 = .ok (.iload_n 1, 1) := by decide +kernel
theorem dX4_lend_83 : decode cX4_lend 83 = .ok (.iload_n 2, 1) := by decide +kernel
theorem dX4_lend_84 : decode cX4_lend 84 = .ok (.iload_n 3, 1) := by decide +kernel
theorem dX4_lend_85 : decode cX4_lend 85 = .ok (.iload_n 3, 1) := by decide +kernel
theorem dX4_lend_86 : decode cX4_lend 86 = .ok (.iload 4, 2) := by decide +kernel
theorem dX4_lend_88 : decode cX4_lend 88 = .ok (.imul, 1) := by decide +kernel
theorem dX4_lend_89 : decode cX4_lend 89 = .ok (.sipush 1000, 3) := by decide +kernel
theorem dX4_lend_92 : decode cX4_lend 92 = .ok (.idiv, 1) := by decide +kernel
theorem dX4_lend_93 : decode cX4_lend 93 = .ok (.iadd, 1) := by decide +kernel
theorem dX4_lend_94 : decode cX4_lend 94 = .ok (.iload 5, 2) := by decide +kernel
theorem dX4_lend_96 : decode cX4_lend 96 = .ok (.invokevirtual 168, 3) := by decide +kernel
theorem dX4_lend_99 : decode cX4_lend 99 = .ok (.ireturn, 1) := by decide +kernel
theorem dX4_loans_0 : decode cX4_loans 0 = .ok (.aload_n 0, 1) := by decide +kernel
theorem dX4_loans_1 : decode cX4_loans 1 = .ok (.getfield 36, 3) := by decide +kernel
theorem dX4_loans_4 : decode cX4_loans 4 = .ok (.getfield 169, 3) := by decide +kernel
theorem dX4_loans_7 : decode cX4_loans 7 = .ok (.aload_n 0, 1) := by decide +kernel
theorem dX4_loans_8 : decode cX4_loans 8 = .ok (.getfield 36, 3) := by decide +kernel
theorem dX4_loans_11 : decode cX4_loans 11 = .ok (.getfield 170, 3) := by decide +kernel
theorem dX4_loans_14 : decode cX4_loans 14 = .ok (.isub, 1) := by decide +kernel
theorem dX4_loans_15 : decode cX4_loans 15 = .ok (.ireturn, 1) := by decide +kernel
set_option maxRecDepth 20000 in
theorem ggX4_morning_X3_forgetPaid : GoodIn wsX4_morning wsX3_forgetPaid := goodIn_r _ [10, 11, 76, 77] (by decide +kernel) (by decide +kernel)
set_option maxRecDepth 20000 in
theorem gX4_morning_X3_forgetPaid : GoodIn wsX4_morning (wsV RX4 173 RX3 yX3_forgetPaid wsX3_forgetPaid) := goodIn_app (goodIn_of _ (by decide +kernel)) ggX4_morning_X3_forgetPaid
set_option maxRecDepth 20000 in
theorem ggX4_morning_X4_canRepay : GoodIn wsX4_morning wsX4_canRepay := goodIn_r _ [16, 2, 5, 17, 1, 18, 19, 20, 21, 58, 59, 60, 61, 62, 63, 64, 65, 66, 67, 68, 69, 70, 71, 72, 73, 74, 75, 76, 77, 78, 79] (by decide +kernel) (by decide +kernel)
set_option maxRecDepth 20000 in
theorem gX4_morning_X4_canRepay : GoodIn wsX4_morning (wsV RX4 176 RX4 yX4_canRepay wsX4_canRepay) := goodIn_app (goodIn_of _ (by decide +kernel)) ggX4_morning_X4_canRepay
set_option maxRecDepth 20000 in
theorem ggX4_morning_X4_repay : GoodIn wsX4_morning wsX4_repay := goodIn_r _ [25, 2, 5, 1, 26, 19, 27, 28, 29, 30, 31, 9, 32, 33, 58, 59, 60, 61, 62, 63, 64, 65, 66, 67, 68, 69, 70, 71, 72, 73, 74, 75, 76, 77] (by decide +kernel) (by decide +kernel)
set_option maxRecDepth 20000 in
theorem gX4_morning_X4_repay : GoodIn wsX4_morning (wsV RX4 180 RX4 yX4_repay wsX4_repay) := goodIn_app (goodIn_of _ (by decide +kernel)) ggX4_morning_X4_repay
set_option maxRecDepth 20000 in
theorem ggX4_morning_X4_close : GoodIn wsX4_morning wsX4_close := goodIn_r _ [37, 17, 38, 39, 40, 41, 42, 43, 44, 45, 46, 47, 58, 59, 60, 61, 62, 63, 64, 65, 66, 67, 68, 69, 80, 81, 82, 83, 84, 85, 86] (by decide +kernel) (by decide +kernel)
set_option maxRecDepth 20000 in
theorem gX4_morning_X4_close : GoodIn wsX4_morning (wsV RX4 186 RX4 yX4_close wsX4_close) := goodIn_app (goodIn_of _ (by decide +kernel)) ggX4_morning_X4_close
set_option maxRecDepth 20000 in
theorem ggX4_morning_X4_sellPledge : GoodIn wsX4_morning wsX4_sellPledge := goodIn_r _ [51, 2, 28, 52, 19, 53, 54, 55, 56, 1, 18, 26, 5, 57, 58, 59, 60, 61, 62, 63, 64, 65, 66, 67, 68, 69, 70, 71, 72, 73, 74, 75, 76, 77] (by decide +kernel) (by decide +kernel)
set_option maxRecDepth 20000 in
theorem gX4_morning_X4_sellPledge : GoodIn wsX4_morning (wsV RX4 189 RX4 yX4_sellPledge wsX4_sellPledge) := goodIn_app (goodIn_of _ (by decide +kernel)) ggX4_morning_X4_sellPledge
theorem dX4_morning_0 : decode cX4_morning 0 = .ok (.aload_n 0, 1) := by decide +kernel
theorem dX4_morning_1 : decode cX4_morning 1 = .ok (.getfield 10, 3) := by decide +kernel
theorem dX4_morning_4 : decode cX4_morning 4 = .ok (.invokevirtual 173, 3) := by decide +kernel
theorem dX4_morning_7 : decode cX4_morning 7 = .ok (.iconst 0, 1) := by decide +kernel
theorem dX4_morning_8 : decode cX4_morning 8 = .ok (.istore_n 1, 1) := by decide +kernel
theorem dX4_morning_9 : decode cX4_morning 9 = .ok (.aload_n 0, 1) := by decide +kernel
theorem dX4_morning_10 : decode cX4_morning 10 = .ok (.getfield 36, 3) := by decide +kernel
theorem dX4_morning_13 : decode cX4_morning 13 = .ok (.getfield 170, 3) := by decide +kernel
theorem dX4_morning_16 : decode cX4_morning 16 = .ok (.istore_n 2, 1) := by decide +kernel
theorem dX4_morning_17 : decode cX4_morning 17 = .ok (.iload_n 2, 1) := by decide +kernel
theorem dX4_morning_18 : decode cX4_morning 18 = .ok (.aload_n 0, 1) := by decide +kernel
theorem dX4_morning_19 : decode cX4_morning 19 = .ok (.getfield 36, 3) := by decide +kernel
theorem dX4_morning_22 : decode cX4_morning 22 = .ok (.getfield 169, 3) := by decide +kernel
theorem dX4_morning_25 : decode cX4_morning 25 = .ok (.if_icmp .ge 46, 3) := by decide +kernel
theorem dX4_morning_28 : decode cX4_morning 28 = .ok (.aload_n 0, 1) := by decide +kernel
theorem dX4_morning_29 : decode cX4_morning 29 = .ok (.iload_n 2, 1) := by decide +kernel
theorem dX4_morning_30 : decode cX4_morning 30 = .ok (.invokevirtual 176, 3) := by decide +kernel
theorem dX4_morning_33 : decode cX4_morning 33 = .ok (.ifCond .eq 11, 3) := by decide +kernel
theorem dX4_morning_36 : decode cX4_morning 36 = .ok (.aload_n 0, 1) := by decide +kernel
theorem dX4_morning_37 : decode cX4_morning 37 = .ok (.iload_n 2, 1) := by decide +kernel
theorem dX4_morning_38 : decode cX4_morning 38 = .ok (.invokevirtual 180, 3) := by decide +kernel
theorem dX4_morning_41 : decode cX4_morning 41 = .ok (.goto 24, 3) := by decide +kernel
theorem dX4_morning_44 : decode cX4_morning 44 = .ok (.iload_n 1, 1) := by decide +kernel
theorem dX4_morning_45 : decode cX4_morning 45 = .ok (.aload_n 0, 1) := by decide +kernel
theorem dX4_morning_46 : decode cX4_morning 46 = .ok (.aload_n 0, 1) := by decide +kernel
theorem dX4_morning_47 : decode cX4_morning 47 = .ok (.getfield 36, 3) := by decide +kernel
theorem dX4_morning_50 : decode cX4_morning 50 = .ok (.getfield 183, 3) := by decide +kernel
theorem dX4_morning_53 : decode cX4_morning 53 = .ok (.iload_n 2, 1) := by decide +kernel
theorem dX4_morning_54 : decode cX4_morning 54 = .ok (.iaload, 1) := by decide +kernel
theorem dX4_morning_55 : decode cX4_morning 55 = .ok (.invokevirtual 186, 3) := by decide +kernel
theorem dX4_morning_58 : decode cX4_morning 58 = .ok (.iadd, 1) := by decide +kernel
theorem dX4_morning_59 : decode cX4_morning 59 = .ok (.istore_n 1, 1) := by decide +kernel
theorem dX4_morning_60 : decode cX4_morning 60 = .ok (.aload_n 0, 1) := by decide +kernel
theorem dX4_morning_61 : decode cX4_morning 61 = .ok (.iload_n 2, 1) := by decide +kernel
theorem dX4_morning_62 : decode cX4_morning 62 = .ok (.invokevirtual 189, 3) := by decide +kernel
theorem dX4_morning_65 : decode cX4_morning 65 = .ok (.iinc 2 1, 3) := by decide +kernel
theorem dX4_morning_68 : decode cX4_morning 68 = .ok (.goto (-51), 3) := by decide +kernel
theorem dX4_morning_71 : decode cX4_morning 71 = .ok (.aload_n 0, 1) := by decide +kernel
theorem dX4_morning_72 : decode cX4_morning 72 = .ok (.getfield 36, 3) := by decide +kernel
theorem dX4_morning_75 : decode cX4_morning 75 = .ok (.aload_n 0, 1) := by decide +kernel
theorem dX4_morning_76 : decode cX4_morning 76 = .ok (.getfield 36, 3) := by decide +kernel
theorem dX4_morning_79 : decode cX4_morning 79 = .ok (.getfield 169, 3) := by decide +kernel
theorem dX4_morning_82 : decode cX4_morning 82 = .ok (.putfield 170, 3) := by decide +kernel
theorem dX4_morning_85 : decode cX4_morning 85 = .ok (.iload_n 1, 1) := by decide +kernel
theorem dX4_morning_86 : decode cX4_morning 86 = .ok (.ireturn, 1) := by decide +kernel
theorem dX4_sold_0 : decode cX4_sold 0 = .ok (.aload_n 0, 1) := by decide +kernel
theorem dX4_sold_1 : decode cX4_sold 1 = .ok (.getfield 192, 3) := by decide +kernel
theorem dX4_sold_4 : decode cX4_sold 4 = .ok (.ireturn, 1) := by decide +kernel
theorem dX4_requireBank_0 : decode cX4_requireBank 0 = .ok (.iload_n 0, 1) := by decide +kernel
theorem dX4_requireBank_1 : decode cX4_requireBank 1 = .ok (.ifCond .lt 8, 3) := by decide +kernel
theorem dX4_requireBank_4 : decode cX4_requireBank 4 = .ok (.iload_n 0, 1) := by decide +kernel
theorem dX4_requireBank_5 : decode cX4_requireBank 5 = .ok (.iconst 5, 1) := by decide +kernel
theorem dX4_requireBank_6 : decode cX4_requireBank 6 = .ok (.if_icmp .lt 13, 3) := by decide +kernel
theorem dX4_requireBank_9 : decode cX4_requireBank 9 = .ok (.new 140, 3) := by decide +kernel
theorem dX4_requireBank_12 : decode cX4_requireBank 12 = .ok (.dup, 1) := by decide +kernel
theorem dX4_requireBank_13 : decode cX4_requireBank 13 = .ok (.ldc 195, 2) := by decide +kernel
theorem dX4_requireBank_15 : decode cX4_requireBank 15 = .ok (.invokespecial 144, 3) := by decide +kernel
theorem dX4_requireBank_18 : decode cX4_requireBank 18 = .ok (.athrow, 1) := by decide +kernel
theorem dX4_requireBank_19 : decode cX4_requireBank 19 = .ok (.return_, 1) := by decide +kernel
theorem dX4_requireTwo_0 : decode cX4_requireTwo 0 = .ok (.iload_n 0, 1) := by decide +kernel
theorem dX4_requireTwo_1 : decode cX4_requireTwo 1 = .ok (.iload_n 1, 1) := by decide +kernel
theorem dX4_requireTwo_2 : decode cX4_requireTwo 2 = .ok (.if_icmp .ne 13, 3) := by decide +kernel
theorem dX4_requireTwo_5 : decode cX4_requireTwo 5 = .ok (.new 197, 3) := by decide +kernel
theorem dX4_requireTwo_8 : decode cX4_requireTwo 8 = .ok (.dup, 1) := by decide +kernel
theorem dX4_requireTwo_9 : decode cX4_requireTwo 9 = .ok (.ldc 199, 2) := by decide +kernel
theorem dX4_requireTwo_11 : decode cX4_requireTwo 11 = .ok (.invokespecial 201, 3) := by decide +kernel
theorem dX4_requireTwo_14 : decode cX4_requireTwo 14 = .ok (.athrow, 1) := by decide +kernel
theorem dX4_requireTwo_15 : decode cX4_requireTwo 15 = .ok (.return_, 1) := by decide +kernel
theorem dX4_requireRange_0 : decode cX4_requireRange 0 = .ok (.iload_n 0, 1) := by decide +kernel
theorem dX4_requireRange_1 : decode cX4_requireRange 1 = .ok (.iload_n 1, 1) := by decide +kernel
theorem dX4_requireRange_2 : decode cX4_requireRange 2 = .ok (.if_icmp .lt 8, 3) := by decide +kernel
theorem dX4_requireRange_5 : decode cX4_requireRange 5 = .ok (.iload_n 0, 1) := by decide +kernel
theorem dX4_requireRange_6 : decode cX4_requireRange 6 = .ok (.iload_n 2, 1) := by decide +kernel
theorem dX4_requireRange_7 : decode cX4_requireRange 7 = .ok (.if_icmp .le 13, 3) := by decide +kernel
theorem dX4_requireRange_10 : decode cX4_requireRange 10 = .ok (.new 197, 3) := by decide +kernel
theorem dX4_requireRange_13 : decode cX4_requireRange 13 = .ok (.dup, 1) := by decide +kernel
theorem dX4_requireRange_14 : decode cX4_requireRange 14 = .ok (.ldc 202, 2) := by decide +kernel
theorem dX4_requireRange_16 : decode cX4_requireRange 16 = .ok (.invokespecial 201, 3) := by decide +kernel
theorem dX4_requireRange_19 : decode cX4_requireRange 19 = .ok (.athrow, 1) := by decide +kernel
theorem dX4_requireRange_20 : decode cX4_requireRange 20 = .ok (.return_, 1) := by decide +kernel
theorem dX4_requireOpen_0 : decode cX4_requireOpen 0 = .ok (.aload_n 0, 1) := by decide +kernel
theorem dX4_requireOpen_1 : decode cX4_requireOpen 1 = .ok (.getfield 40, 3) := by decide +kernel
theorem dX4_requireOpen_4 : decode cX4_requireOpen 4 = .ok (.iload_n 1, 1) := by decide +kernel
theorem dX4_requireOpen_5 : decode cX4_requireOpen 5 = .ok (.baload, 1) := by decide +kernel
theorem dX4_requireOpen_6 : decode cX4_requireOpen 6 = .ok (.ifCond .eq 13, 3) := by decide +kernel
theorem dX4_requireOpen_9 : decode cX4_requireOpen 9 = .ok (.new 77, 3) := by decide +kernel
theorem dX4_requireOpen_12 : decode cX4_requireOpen 12 = .ok (.dup, 1) := by decide +kernel
theorem dX4_requireOpen_13 : decode cX4_requireOpen 13 = .ok (.ldc 204, 2) := by decide +kernel
theorem dX4_requireOpen_15 : decode cX4_requireOpen 15 = .ok (.invokespecial 81, 3) := by decide +kernel
theorem dX4_requireOpen_18 : decode cX4_requireOpen 18 = .ok (.athrow, 1) := by decide +kernel
theorem dX4_requireOpen_19 : decode cX4_requireOpen 19 = .ok (.return_, 1) := by decide +kernel
theorem dX4_requirePayment_0 : decode cX4_requirePayment 0 = .ok (.iload_n 1, 1) := by decide +kernel
theorem dX4_requirePayment_1 : decode cX4_requirePayment 1 = .ok (.ifCond .lt 14, 3) := by decide +kernel
theorem dX4_requirePayment_4 : decode cX4_requirePayment 4 = .ok (.iload_n 1, 1) := by decide +kernel
theorem dX4_requirePayment_5 : decode cX4_requirePayment 5 = .ok (.aload_n 0, 1) := by decide +kernel
theorem dX4_requirePayment_6 : decode cX4_requirePayment 6 = .ok (.getfield 29, 3) := by decide +kernel
theorem dX4_requirePayment_9 : decode cX4_requirePayment 9 = .ok (.getfield 113, 3) := by decide +kernel
theorem dX4_requirePayment_12 : decode cX4_requirePayment 12 = .ok (.if_icmp .lt 13, 3) := by decide +kernel
theorem dX4_requirePayment_15 : decode cX4_requirePayment 15 = .ok (.new 140, 3) := by decide +kernel
theorem dX4_requirePayment_18 : decode cX4_requirePayment 18 = .ok (.dup, 1) := by decide +kernel
theorem dX4_requirePayment_19 : decode cX4_requirePayment 19 = .ok (.ldc 206, 2) := by decide +kernel
theorem dX4_requirePayment_21 : decode cX4_requirePayment 21 = .ok (.invokespecial 144, 3) := by decide +kernel
theorem dX4_requirePayment_24 : decode cX4_requirePayment 24 = .ok (.athrow, 1) := by decide +kernel
theorem dX4_requirePayment_25 : decode cX4_requirePayment 25 = .ok (.return_, 1) := by decide +kernel
set_option maxRecDepth 20000 in
theorem ggX4_requireLoanable_X4_pledgeWorth : GoodIn wsX4_requireLoanable wsX4_pledgeWorth := goodIn_r _ [14, 15, 16, 17, 18, 19, 20, 21, 22, 23, 24, 25, 26, 27, 28] (by decide +kernel) (by decide +kernel)
set_option maxRecDepth 20000 in
theorem gX4_requireLoanable_X4_pledgeWorth : GoodIn wsX4_requireLoanable (wsV RX4 210 RX4 yX4_pledgeWorth wsX4_pledgeWorth) := goodIn_app (goodIn_of _ (by decide +kernel)) ggX4_requireLoanable_X4_pledgeWorth
theorem dX4_requireLoanable_0 : decode cX4_requireLoanable 0 = .ok (.aload_n 0, 1) := by decide +kernel
theorem dX4_requireLoanable_1 : decode cX4_requireLoanable 1 = .ok (.getfield 36, 3) := by decide +kernel
theorem dX4_requireLoanable_4 : decode cX4_requireLoanable 4 = .ok (.getfield 169, 3) := by decide +kernel
theorem dX4_requireLoanable_7 : decode cX4_requireLoanable 7 = .ok (.bipush 40, 2) := by decide +kernel
theorem dX4_requireLoanable_9 : decode cX4_requireLoanable 9 = .ok (.if_icmp .lt 13, 3) := by decide +kernel
theorem dX4_requireLoanable_12 : decode cX4_requireLoanable 12 = .ok (.new 77, 3) := by decide +kernel
theorem dX4_requireLoanable_15 : decode cX4_requireLoanable 15 = .ok (.dup, 1) := by decide +kernel
theorem dX4_requireLoanable_16 : decode cX4_requireLoanable 16 = .ok (.ldc 208, 2) := by decide +kernel
theorem dX4_requireLoanable_18 : decode cX4_requireLoanable 18 = .ok (.invokespecial 81, 3) := by decide +kernel
theorem dX4_requireLoanable_21 : decode cX4_requireLoanable 21 = .ok (.athrow, 1) := by decide +kernel
theorem dX4_requireLoanable_22 : decode cX4_requireLoanable 22 = .ok (.aload_n 0, 1) := by decide +kernel
theorem dX4_requireLoanable_23 : decode cX4_requireLoanable 23 = .ok (.getfield 44, 3) := by decide +kernel
theorem dX4_requireLoanable_26 : decode cX4_requireLoanable 26 = .ok (.iload_n 2, 1) := by decide +kernel
theorem dX4_requireLoanable_27 : decode cX4_requireLoanable 27 = .ok (.iaload, 1) := by decide +kernel
theorem dX4_requireLoanable_28 : decode cX4_requireLoanable 28 = .ok (.iload 4, 2) := by decide +kernel
theorem dX4_requireLoanable_30 : decode cX4_requireLoanable 30 = .ok (.if_icmp .lt 13, 3) := by decide +kernel
theorem dX4_requireLoanable_33 : decode cX4_requireLoanable 33 = .ok (.aload_n 0, 1) := by decide +kernel
theorem dX4_requireLoanable_34 : decode cX4_requireLoanable 34 = .ok (.iload 4, 2) := by decide +kernel
theorem dX4_requireLoanable_36 : decode cX4_requireLoanable 36 = .ok (.invokevirtual 210, 3) := by decide +kernel
theorem dX4_requireLoanable_39 : decode cX4_requireLoanable 39 = .ok (.iload_n 3, 1) := by decide +kernel
theorem dX4_requireLoanable_40 : decode cX4_requireLoanable 40 = .ok (.if_icmp .ge 13, 3) := by decide +kernel
theorem dX4_requireLoanable_43 : decode cX4_requireLoanable 43 = .ok (.new 77, 3) := by decide +kernel
theorem dX4_requireLoanable_46 : decode cX4_requireLoanable 46 = .ok (.dup, 1) := by decide +kernel
theorem dX4_requireLoanable_47 : decode cX4_requireLoanable 47 = .ok (.ldc 213, 2) := by decide +kernel
theorem dX4_requireLoanable_49 : decode cX4_requireLoanable 49 = .ok (.invokespecial 81, 3) := by decide +kernel
theorem dX4_requireLoanable_52 : decode cX4_requireLoanable 52 = .ok (.athrow, 1) := by decide +kernel
theorem dX4_requireLoanable_53 : decode cX4_requireLoanable 53 = .ok (.aload_n 0, 1) := by decide +kernel
theorem dX4_requireLoanable_54 : decode cX4_requireLoanable 54 = .ok (.getfield 10, 3) := by decide +kernel
theorem dX4_requireLoanable_57 : decode cX4_requireLoanable 57 = .ok (.getfield 73, 3) := by decide +kernel
theorem dX4_requireLoanable_60 : decode cX4_requireLoanable 60 = .ok (.iload_n 1, 1) := by decide +kernel
theorem dX4_requireLoanable_61 : decode cX4_requireLoanable 61 = .ok (.iaload, 1) := by decide +kernel
theorem dX4_requireLoanable_62 : decode cX4_requireLoanable 62 = .ok (.iload_n 3, 1) := by decide +kernel
theorem dX4_requireLoanable_63 : decode cX4_requireLoanable 63 = .ok (.isub, 1) := by decide +kernel
theorem dX4_requireLoanable_64 : decode cX4_requireLoanable 64 = .ok (.aload_n 0, 1) := by decide +kernel
theorem dX4_requireLoanable_65 : decode cX4_requireLoanable 65 = .ok (.getfield 22, 3) := by decide +kernel
theorem dX4_requireLoanable_68 : decode cX4_requireLoanable 68 = .ok (.getfield 91, 3) := by decide +kernel
theorem dX4_requireLoanable_71 : decode cX4_requireLoanable 71 = .ok (.iload_n 1, 1) := by decide +kernel
theorem dX4_requireLoanable_72 : decode cX4_requireLoanable 72 = .ok (.iaload, 1) := by decide +kernel
theorem dX4_requireLoanable_73 : decode cX4_requireLoanable 73 = .ok (.if_icmp .ge 13, 3) := by decide +kernel
theorem dX4_requireLoanable_76 : decode cX4_requireLoanable 76 = .ok (.new 77, 3) := by decide +kernel
theorem dX4_requireLoanable_79 : decode cX4_requireLoanable 79 = .ok (.dup, 1) := by decide +kernel
theorem dX4_requireLoanable_80 : decode cX4_requireLoanable 80 = .ok (.ldc 215, 2) := by decide +kernel
theorem dX4_requireLoanable_82 : decode cX4_requireLoanable 82 = .ok (.invokespecial 81, 3) := by decide +kernel
theorem dX4_requireLoanable_85 : decode cX4_requireLoanable 85 = .ok (.athrow, 1) := by decide +kernel
theorem dX4_requireLoanable_86 : decode cX4_requireLoanable 86 = .ok (.return_, 1) := by decide +kernel
theorem dX4_pairOf_0 : decode cX4_pairOf 0 = .ok (.iload_n 0, 1) := by decide +kernel
theorem dX4_pairOf_1 : decode cX4_pairOf 1 = .ok (.iconst 5, 1) := by decide +kernel
theorem dX4_pairOf_2 : decode cX4_pairOf 2 = .ok (.imul, 1) := by decide +kernel
theorem dX4_pairOf_3 : decode cX4_pairOf 3 = .ok (.iload_n 1, 1) := by decide +kernel
theorem dX4_pairOf_4 : decode cX4_pairOf 4 = .ok (.iadd, 1) := by decide +kernel
theorem dX4_pairOf_5 : decode cX4_pairOf 5 = .ok (.ireturn, 1) := by decide +kernel
set_option maxRecDepth 20000 in
theorem ggX4_obstacle_X4_pairOf : GoodIn wsX4_obstacle wsX4_pairOf := goodIn_r _ [15] (by decide +kernel) (by decide +kernel)
set_option maxRecDepth 20000 in
theorem gX4_obstacle_X4_pairOf : GoodIn wsX4_obstacle (va_wsS RX4 98 yX4_pairOf wsX4_pairOf) := goodIn_app (goodIn_of _ (by decide +kernel)) ggX4_obstacle_X4_pairOf
theorem dX4_obstacle_0 : decode cX4_obstacle 0 = .ok (.aload_n 0, 1) := by decide +kernel
theorem dX4_obstacle_1 : decode cX4_obstacle 1 = .ok (.getfield 29, 3) := by decide +kernel
theorem dX4_obstacle_4 : decode cX4_obstacle 4 = .ok (.getfield 125, 3) := by decide +kernel
theorem dX4_obstacle_7 : decode cX4_obstacle 7 = .ok (.iload_n 1, 1) := by decide +kernel
theorem dX4_obstacle_8 : decode cX4_obstacle 8 = .ok (.baload, 1) := by decide +kernel
theorem dX4_obstacle_9 : decode cX4_obstacle 9 = .ok (.ifCond .ne 5, 3) := by decide +kernel
theorem dX4_obstacle_12 : decode cX4_obstacle 12 = .ok (.iconst 3, 1) := by decide +kernel
theorem dX4_obstacle_13 : decode cX4_obstacle 13 = .ok (.ireturn, 1) := by decide +kernel
theorem dX4_obstacle_14 : decode cX4_obstacle 14 = .ok (.aload_n 0, 1) := by decide +kernel
theorem dX4_obstacle_15 : decode cX4_obstacle 15 = .ok (.getfield 29, 3) := by decide +kernel
theorem dX4_obstacle_18 : decode cX4_obstacle 18 = .ok (.getfield 217, 3) := by decide +kernel
theorem dX4_obstacle_21 : decode cX4_obstacle 21 = .ok (.iload_n 1, 1) := by decide +kernel
theorem dX4_obstacle_22 : decode cX4_obstacle 22 = .ok (.iaload, 1) := by decide +kernel
theorem dX4_obstacle_23 : decode cX4_obstacle 23 = .ok (.istore_n 2, 1) := by decide +kernel
theorem dX4_obstacle_24 : decode cX4_obstacle 24 = .ok (.aload_n 0, 1) := by decide +kernel
theorem dX4_obstacle_25 : decode cX4_obstacle 25 = .ok (.getfield 29, 3) := by decide +kernel
theorem dX4_obstacle_28 : decode cX4_obstacle 28 = .ok (.getfield 220, 3) := by decide +kernel
theorem dX4_obstacle_31 : decode cX4_obstacle 31 = .ok (.iload_n 1, 1) := by decide +kernel
theorem dX4_obstacle_32 : decode cX4_obstacle 32 = .ok (.iaload, 1) := by decide +kernel
theorem dX4_obstacle_33 : decode cX4_obstacle 33 = .ok (.istore_n 3, 1) := by decide +kernel
theorem dX4_obstacle_34 : decode cX4_obstacle 34 = .ok (.aload_n 0, 1) := by decide +kernel
theorem dX4_obstacle_35 : decode cX4_obstacle 35 = .ok (.getfield 10, 3) := by decide +kernel
theorem dX4_obstacle_38 : decode cX4_obstacle 38 = .ok (.getfield 73, 3) := by decide +kernel
theorem dX4_obstacle_41 : decode cX4_obstacle 41 = .ok (.iload_n 2, 1) := by decide +kernel
theorem dX4_obstacle_42 : decode cX4_obstacle 42 = .ok (.iaload, 1) := by decide +kernel
theorem dX4_obstacle_43 : decode cX4_obstacle 43 = .ok (.iload_n 3, 1) := by decide +kernel
theorem dX4_obstacle_44 : decode cX4_obstacle 44 = .ok (.isub, 1) := by decide +kernel
theorem dX4_obstacle_45 : decode cX4_obstacle 45 = .ok (.aload_n 0, 1) := by decide +kernel
theorem dX4_obstacle_46 : decode cX4_obstacle 46 = .ok (.getfield 22, 3) := by decide +kernel
theorem dX4_obstacle_49 : decode cX4_obstacle 49 = .ok (.getfield 91, 3) := by decide +kernel
theorem dX4_obstacle_52 : decode cX4_obstacle 52 = .ok (.iload_n 2, 1) := by decide +kernel
theorem dX4_obstacle_53 : decode cX4_obstacle 53 = .ok (.iaload, 1) := by decide +kernel
theorem dX4_obstacle_54 : decode cX4_obstacle 54 = .ok (.if_icmp .ge 5, 3) := by decide +kernel
theorem dX4_obstacle_57 : decode cX4_obstacle 57 = .ok (.iconst 1, 1) := by decide +kernel
theorem dX4_obstacle_58 : decode cX4_obstacle 58 = .ok (.ireturn, 1) := by decide +kernel
theorem dX4_obstacle_59 : decode cX4_obstacle 59 = .ok (.iload_n 2, 1) := by decide +kernel
theorem dX4_obstacle_60 : decode cX4_obstacle 60 = .ok (.aload_n 0, 1) := by decide +kernel
theorem dX4_obstacle_61 : decode cX4_obstacle 61 = .ok (.getfield 29, 3) := by decide +kernel
theorem dX4_obstacle_64 : decode cX4_obstacle 64 = .ok (.getfield 223, 3) := by decide +kernel
theorem dX4_obstacle_67 : decode cX4_obstacle 67 = .ok (.iload_n 1, 1) := by decide +kernel
theorem dX4_obstacle_68 : decode cX4_obstacle 68 = .ok (.iaload, 1) := by decide +kernel
theorem dX4_obstacle_69 : decode cX4_obstacle 69 = .ok (.invokestatic 98, 3) := by decide +kernel
theorem dX4_obstacle_72 : decode cX4_obstacle 72 = .ok (.istore 4, 2) := by decide +kernel
theorem dX4_obstacle_74 : decode cX4_obstacle 74 = .ok (.aload_n 0, 1) := by decide +kernel
theorem dX4_obstacle_75 : decode cX4_obstacle 75 = .ok (.getfield 10, 3) := by decide +kernel
theorem dX4_obstacle_78 : decode cX4_obstacle 78 = .ok (.getfield 101, 3) := by decide +kernel
theorem dX4_obstacle_81 : decode cX4_obstacle 81 = .ok (.iload 4, 2) := by decide +kernel
theorem dX4_obstacle_83 : decode cX4_obstacle 83 = .ok (.iaload, 1) := by decide +kernel
theorem dX4_obstacle_84 : decode cX4_obstacle 84 = .ok (.iload_n 3, 1) := by decide +kernel
theorem dX4_obstacle_85 : decode cX4_obstacle 85 = .ok (.iadd, 1) := by decide +kernel
theorem dX4_obstacle_86 : decode cX4_obstacle 86 = .ok (.aload_n 0, 1) := by decide +kernel
theorem dX4_obstacle_87 : decode cX4_obstacle 87 = .ok (.getfield 22, 3) := by decide +kernel
theorem dX4_obstacle_90 : decode cX4_obstacle 90 = .ok (.getfield 107, 3) := by decide +kernel
theorem dX4_obstacle_93 : decode cX4_obstacle 93 = .ok (.iload 4, 2) := by decide +kernel
theorem dX4_obstacle_95 : decode cX4_obstacle 95 = .ok (.iaload, 1) := by decide +kernel
theorem dX4_obstacle_96 : decode cX4_obstacle 96 = .ok (.if_icmp .le 7, 3) := by decide +kernel
theorem dX4_obstacle_99 : decode cX4_obstacle 99 = .ok (.iconst 2, 1) := by decide +kernel
theorem dX4_obstacle_100 : decode cX4_obstacle 100 = .ok (.goto 4, 3) := by decide +kernel
theorem dX4_obstacle_103 : decode cX4_obstacle 103 = .ok (.iconst 0, 1) := by decide +kernel
theorem dX4_obstacle_104 : decode cX4_obstacle 104 = .ok (.ireturn, 1) := by decide +kernel
set_option maxRecDepth 20000 in
theorem ggX4_send_X2_apply : GoodIn wsX4_send wsX2_apply := goodIn_r _ [8, 9, 10, 11, 12, 13, 14, 15, 16, 17, 18, 19, 20, 21, 22, 23, 24, 25, 38, 39, 40, 41, 42, 43, 44, 45, 46] (by decide +kernel) (by decide +kernel)
set_option maxRecDepth 20000 in
theorem gX4_send_X2_apply : GoodIn wsX4_send (wsV RX4 226 RX2 yX2_apply wsX2_apply) := goodIn_app (goodIn_of _ (by decide +kernel)) ggX4_send_X2_apply
theorem dX4_send_0 : decode cX4_send 0 = .ok (.aload_n 0, 1) := by decide +kernel
theorem dX4_send_1 : decode cX4_send 1 = .ok (.getfield 29, 3) := by decide +kernel
theorem dX4_send_4 : decode cX4_send 4 = .ok (.iload_n 1, 1) := by decide +kernel
theorem dX4_send_5 : decode cX4_send 5 = .ok (.aload_n 0, 1) := by decide +kernel
theorem dX4_send_6 : decode cX4_send 6 = .ok (.getfield 10, 3) := by decide +kernel
theorem dX4_send_9 : decode cX4_send 9 = .ok (.invokevirtual 226, 3) := by decide +kernel
theorem dX4_send_12 : decode cX4_send 12 = .ok (.aload_n 0, 1) := by decide +kernel
theorem dX4_send_13 : decode cX4_send 13 = .ok (.getfield 29, 3) := by decide +kernel
theorem dX4_send_16 : decode cX4_send 16 = .ok (.getfield 125, 3) := by decide +kernel
theorem dX4_send_19 : decode cX4_send 19 = .ok (.iload_n 1, 1) := by decide +kernel
theorem dX4_send_20 : decode cX4_send 20 = .ok (.iconst 0, 1) := by decide +kernel
theorem dX4_send_21 : decode cX4_send 21 = .ok (.bastore, 1) := by decide +kernel
theorem dX4_send_22 : decode cX4_send 22 = .ok (.return_, 1) := by decide +kernel
set_option maxRecDepth 20000 in
theorem ggX4_goThroughBanks_X4_nextToGo : GoodIn wsX4_goThroughBanks wsX4_nextToGo := goodIn_r _ [5, 6, 7, 8, 9, 10, 11, 12, 13, 14, 15, 16, 17, 18, 19, 20, 21, 22, 4, 23, 24, 25, 26, 27, 28, 29, 30, 31, 32, 33, 34, 35, 36, 37, 38, 39, 40, 41, 42, 43, 44, 66, 67, 68, 69, 70, 71, 72, 73, 74, 75, 76, 77, 78, 79, 80, 81, 82, 83, 84, 85, 86, 87, 88] (by decide +kernel) (by decide +kernel)
set_option maxRecDepth 20000 in
theorem gX4_goThroughBanks_X4_nextToGo : GoodIn wsX4_goThroughBanks (wsV RX4 230 RX4 yX4_nextToGo wsX4_nextToGo) := goodIn_app (goodIn_of _ (by decide +kernel)) ggX4_goThroughBanks_X4_nextToGo
set_option maxRecDepth 20000 in
theorem ggX4_goThroughBanks_X4_send : GoodIn wsX4_goThroughBanks wsX4_send := goodIn_r _ [48, 6, 27, 24, 49, 50, 51, 10, 52, 19, 53, 54, 55, 56, 57, 58, 59, 60, 61, 62, 63, 64, 65, 35, 4, 36, 66, 67, 68, 69, 70, 71, 72, 73, 74, 75, 76, 77, 78, 79, 80, 81, 82, 83, 84, 85, 86] (by decide +kernel) (by decide +kernel)
set_option maxRecDepth 20000 in
theorem gX4_goThroughBanks_X4_send : GoodIn wsX4_goThroughBanks (wsV RX4 233 RX4 yX4_send wsX4_send) := goodIn_app (goodIn_of _ (by decide +kernel)) ggX4_goThroughBanks_X4_send
theorem dX4_goThroughBanks_0 : decode cX4_goThroughBanks 0 = .ok (.iconst 0, 1) := by decide +kernel
theorem dX4_goThroughBanks_1 : decode cX4_goThroughBanks 1 = .ok (.istore_n 1, 1) := by decide +kernel
theorem dX4_goThroughBanks_2 : decode cX4_goThroughBanks 2 = .ok (.iconst 0, 1) := by decide +kernel
theorem dX4_goThroughBanks_3 : decode cX4_goThroughBanks 3 = .ok (.istore_n 2, 1) := by decide +kernel
theorem dX4_goThroughBanks_4 : decode cX4_goThroughBanks 4 = .ok (.iload_n 2, 1) := by decide +kernel
theorem dX4_goThroughBanks_5 : decode cX4_goThroughBanks 5 = .ok (.iconst 5, 1) := by decide +kernel
theorem dX4_goThroughBanks_6 : decode cX4_goThroughBanks 6 = .ok (.if_icmp .ge 28, 3) := by decide +kernel
theorem dX4_goThroughBanks_9 : decode cX4_goThroughBanks 9 = .ok (.aload_n 0, 1) := by decide +kernel
theorem dX4_goThroughBanks_10 : decode cX4_goThroughBanks 10 = .ok (.iload_n 2, 1) := by decide +kernel
theorem dX4_goThroughBanks_11 : decode cX4_goThroughBanks 11 = .ok (.invokevirtual 230, 3) := by decide +kernel
theorem dX4_goThroughBanks_14 : decode cX4_goThroughBanks 14 = .ok (.istore_n 3, 1) := by decide +kernel
theorem dX4_goThroughBanks_15 : decode cX4_goThroughBanks 15 = .ok (.iload_n 3, 1) := by decide +kernel
theorem dX4_goThroughBanks_16 : decode cX4_goThroughBanks 16 = .ok (.iconst (-1), 1) := by decide +kernel
theorem dX4_goThroughBanks_17 : decode cX4_goThroughBanks 17 = .ok (.if_icmp .eq 11, 3) := by decide +kernel
theorem dX4_goThroughBanks_20 : decode cX4_goThroughBanks 20 = .ok (.aload_n 0, 1) := by decide +kernel
theorem dX4_goThroughBanks_21 : decode cX4_goThroughBanks 21 = .ok (.iload_n 3, 1) := by decide +kernel
theorem dX4_goThroughBanks_22 : decode cX4_goThroughBanks 22 = .ok (.invokevirtual 233, 3) := by decide +kernel
theorem dX4_goThroughBanks_25 : decode cX4_goThroughBanks 25 = .ok (.iinc 1 1, 3) := by decide +kernel
theorem dX4_goThroughBanks_28 : decode cX4_goThroughBanks 28 = .ok (.iinc 2 1, 3) := by decide +kernel
theorem dX4_goThroughBanks_31 : decode cX4_goThroughBanks 31 = .ok (.goto (-27), 3) := by decide +kernel
theorem dX4_goThroughBanks_34 : decode cX4_goThroughBanks 34 = .ok (.iload_n 1, 1) := by decide +kernel
theorem dX4_goThroughBanks_35 : decode cX4_goThroughBanks 35 = .ok (.ireturn, 1) := by decide +kernel
set_option maxRecDepth 20000 in
theorem ggX4_nextToGo_X2_inQueue : GoodIn wsX4_nextToGo wsX2_inQueue := goodIn_r _ [6, 7, 8, 9, 10, 11, 5, 12, 13, 14, 53, 54, 55, 56, 57, 58, 59] (by decide +kernel) (by decide +kernel)
set_option maxRecDepth 20000 in
theorem gX4_nextToGo_X2_inQueue : GoodIn wsX4_nextToGo (wsV RX4 145 RX2 yX2_inQueue wsX2_inQueue) := goodIn_app (goodIn_of _ (by decide +kernel)) ggX4_nextToGo_X2_inQueue
set_option maxRecDepth 20000 in
theorem ggX4_nextToGo_X4_obstacle : GoodIn wsX4_nextToGo wsX4_obstacle := goodIn_r _ [19, 1, 20, 21, 22, 23, 24, 25, 26, 27, 28, 29, 30, 31, 18, 32, 41, 42, 43, 44, 45, 46, 47, 48, 49, 50, 51, 52, 53, 54, 55, 56, 57, 58, 59, 60, 61, 62, 63] (by decide +kernel) (by decide +kernel)
set_option maxRecDepth 20000 in
theorem gX4_nextToGo_X4_obstacle : GoodIn wsX4_nextToGo (wsV RX4 148 RX4 yX4_obstacle wsX4_obstacle) := goodIn_app (goodIn_of _ (by decide +kernel)) ggX4_nextToGo_X4_obstacle
set_option maxRecDepth 20000 in
theorem ggX4_nextToGo_X4_firstSmallFree : GoodIn wsX4_nextToGo wsX4_firstSmallFree := goodIn_r _ [36, 1, 37, 38, 22, 39, 40, 10, 11, 5, 12, 13, 14, 15, 16, 17, 18, 19, 20, 21, 23, 24, 25, 26, 27, 28, 29, 30, 31, 32, 41, 42, 43, 44, 45, 46, 47, 48, 49, 50, 51, 52, 53, 54, 55, 56, 57, 58, 59, 60, 61, 62, 63] (by decide +kernel) (by decide +kernel)
set_option maxRecDepth 20000 in
theorem gX4_nextToGo_X4_firstSmallFree : GoodIn wsX4_nextToGo (wsV RX4 236 RX4 yX4_firstSmallFree wsX4_firstSmallFree) := goodIn_app (goodIn_of _ (by decide +kernel)) ggX4_nextToGo_X4_firstSmallFree
theorem dX4_nextToGo_0 : decode cX4_nextToGo 0 = .ok (.aload_n 0, 1) := by decide +kernel
theorem dX4_nextToGo_1 : decode cX4_nextToGo 1 = .ok (.getfield 29, 3) := by decide +kernel
theorem dX4_nextToGo_4 : decode cX4_nextToGo 4 = .ok (.iload_n 1, 1) := by decide +kernel
theorem dX4_nextToGo_5 : decode cX4_nextToGo 5 = .ok (.iconst 0, 1) := by decide +kernel
theorem dX4_nextToGo_6 : decode cX4_nextToGo 6 = .ok (.invokevirtual 145, 3) := by decide +kernel
theorem dX4_nextToGo_9 : decode cX4_nextToGo 9 = .ok (.istore_n 2, 1) := by decide +kernel
theorem dX4_nextToGo_10 : decode cX4_nextToGo 10 = .ok (.iload_n 2, 1) := by decide +kernel
theorem dX4_nextToGo_11 : decode cX4_nextToGo 11 = .ok (.iconst (-1), 1) := by decide +kernel
theorem dX4_nextToGo_12 : decode cX4_nextToGo 12 = .ok (.if_icmp .eq 11, 3) := by decide +kernel
theorem dX4_nextToGo_15 : decode cX4_nextToGo 15 = .ok (.aload_n 0, 1) := by decide +kernel
theorem dX4_nextToGo_16 : decode cX4_nextToGo 16 = .ok (.iload_n 2, 1) := by decide +kernel
theorem dX4_nextToGo_17 : decode cX4_nextToGo 17 = .ok (.invokevirtual 148, 3) := by decide +kernel
theorem dX4_nextToGo_20 : decode cX4_nextToGo 20 = .ok (.ifCond .ne 5, 3) := by decide +kernel
theorem dX4_nextToGo_23 : decode cX4_nextToGo 23 = .ok (.iload_n 2, 1) := by decide +kernel
theorem dX4_nextToGo_24 : decode cX4_nextToGo 24 = .ok (.ireturn, 1) := by decide +kernel
theorem dX4_nextToGo_25 : decode cX4_nextToGo 25 = .ok (.aload_n 0, 1) := by decide +kernel
theorem dX4_nextToGo_26 : decode cX4_nextToGo 26 = .ok (.iload_n 1, 1) := by decide +kernel
theorem dX4_nextToGo_27 : decode cX4_nextToGo 27 = .ok (.invokevirtual 236, 3) := by decide +kernel
theorem dX4_nextToGo_30 : decode cX4_nextToGo 30 = .ok (.ireturn, 1) := by decide +kernel
set_option maxRecDepth 20000 in
theorem ggX4_firstSmallFree_X2_waitsAt : GoodIn wsX4_firstSmallFree wsX2_waitsAt := goodIn_r _ [10, 11, 12, 42, 43, 44, 45, 46, 47, 48] (by decide +kernel) (by decide +kernel)
set_option maxRecDepth 20000 in
theorem gX4_firstSmallFree_X2_waitsAt : GoodIn wsX4_firstSmallFree (wsV RX4 242 RX2 yX2_waitsAt wsX2_waitsAt) := goodIn_app (goodIn_of _ (by decide +kernel)) ggX4_firstSmallFree_X2_waitsAt
set_option maxRecDepth 20000 in
theorem ggX4_firstSmallFree_X4_obstacle : GoodIn wsX4_firstSmallFree wsX4_obstacle := goodIn_r _ [17, 1, 18, 19, 4, 20, 21, 22, 23, 24, 25, 26, 27, 28, 16, 29, 30, 31, 32, 33, 34, 35, 36, 37, 38, 39, 40, 41, 42, 43, 44, 45, 46, 47, 48, 49, 50, 51, 52] (by decide +kernel) (by decide +kernel)
set_option maxRecDepth 20000 in
theorem gX4_firstSmallFree_X4_obstacle : GoodIn wsX4_firstSmallFree (wsV RX4 148 RX4 yX4_obstacle wsX4_obstacle) := goodIn_app (goodIn_of _ (by decide +kernel)) ggX4_firstSmallFree_X4_obstacle
theorem dX4_firstSmallFree_0 : decode cX4_firstSmallFree 0 = .ok (.iconst 0, 1) := by decide +kernel
theorem dX4_firstSmallFree_1 : decode cX4_firstSmallFree 1 = .ok (.istore_n 2, 1) := by decide +kernel
theorem dX4_firstSmallFree_2 : decode cX4_firstSmallFree 2 = .ok (.iload_n 2, 1) := by decide +kernel
theorem dX4_firstSmallFree_3 : decode cX4_firstSmallFree 3 = .ok (.aload_n 0, 1) := by decide +kernel
theorem dX4_firstSmallFree_4 : decode cX4_firstSmallFree 4 = .ok (.getfield 29, 3) := by decide +kernel
theorem dX4_firstSmallFree_7 : decode cX4_firstSmallFree 7 = .ok (.getfield 113, 3) := by decide +kernel
theorem dX4_firstSmallFree_10 : decode cX4_firstSmallFree 10 = .ok (.if_icmp .ge 57, 3) := by decide +kernel
theorem dX4_firstSmallFree_13 : decode cX4_firstSmallFree 13 = .ok (.aload_n 0, 1) := by decide +kernel
theorem dX4_firstSmallFree_14 : decode cX4_firstSmallFree 14 = .ok (.getfield 29, 3) := by decide +kernel
theorem dX4_firstSmallFree_17 : decode cX4_firstSmallFree 17 = .ok (.getfield 239, 3) := by decide +kernel
theorem dX4_firstSmallFree_20 : decode cX4_firstSmallFree 20 = .ok (.iload_n 2, 1) := by decide +kernel
theorem dX4_firstSmallFree_21 : decode cX4_firstSmallFree 21 = .ok (.iaload, 1) := by decide +kernel
theorem dX4_firstSmallFree_22 : decode cX4_firstSmallFree 22 = .ok (.istore_n 3, 1) := by decide +kernel
theorem dX4_firstSmallFree_23 : decode cX4_firstSmallFree 23 = .ok (.aload_n 0, 1) := by decide +kernel
theorem dX4_firstSmallFree_24 : decode cX4_firstSmallFree 24 = .ok (.getfield 29, 3) := by decide +kernel
theorem dX4_firstSmallFree_27 : decode cX4_firstSmallFree 27 = .ok (.iload_n 3, 1) := by decide +kernel
theorem dX4_firstSmallFree_28 : decode cX4_firstSmallFree 28 = .ok (.iload_n 1, 1) := by decide +kernel
theorem dX4_firstSmallFree_29 : decode cX4_firstSmallFree 29 = .ok (.invokevirtual 242, 3) := by decide +kernel
theorem dX4_firstSmallFree_32 : decode cX4_firstSmallFree 32 = .ok (.ifCond .eq 29, 3) := by decide +kernel
theorem dX4_firstSmallFree_35 : decode cX4_firstSmallFree 35 = .ok (.aload_n 0, 1) := by decide +kernel
theorem dX4_firstSmallFree_36 : decode cX4_firstSmallFree 36 = .ok (.getfield 29, 3) := by decide +kernel
theorem dX4_firstSmallFree_39 : decode cX4_firstSmallFree 39 = .ok (.getfield 220, 3) := by decide +kernel
theorem dX4_firstSmallFree_42 : decode cX4_firstSmallFree 42 = .ok (.iload_n 3, 1) := by decide +kernel
theorem dX4_firstSmallFree_43 : decode cX4_firstSmallFree 43 = .ok (.iaload, 1) := by decide +kernel
theorem dX4_firstSmallFree_44 : decode cX4_firstSmallFree 44 = .ok (.aload_n 0, 1) := by decide +kernel
theorem dX4_firstSmallFree_45 : decode cX4_firstSmallFree 45 = .ok (.getfield 51, 3) := by decide +kernel
theorem dX4_firstSmallFree_48 : decode cX4_firstSmallFree 48 = .ok (.if_icmp .gt 13, 3) := by decide +kernel
theorem dX4_firstSmallFree_51 : decode cX4_firstSmallFree 51 = .ok (.aload_n 0, 1) := by decide +kernel
theorem dX4_firstSmallFree_52 : decode cX4_firstSmallFree 52 = .ok (.iload_n 3, 1) := by decide +kernel
theorem dX4_firstSmallFree_53 : decode cX4_firstSmallFree 53 = .ok (.invokevirtual 148, 3) := by decide +kernel
theorem dX4_firstSmallFree_56 : decode cX4_firstSmallFree 56 = .ok (.ifCond .ne 5, 3) := by decide +kernel
theorem dX4_firstSmallFree_59 : decode cX4_firstSmallFree 59 = .ok (.iload_n 3, 1) := by decide +kernel
theorem dX4_firstSmallFree_60 : decode cX4_firstSmallFree 60 = .ok (.ireturn, 1) := by decide +kernel
theorem dX4_firstSmallFree_61 : decode cX4_firstSmallFree 61 = .ok (.iinc 2 1, 3) := by decide +kernel
theorem dX4_firstSmallFree_64 : decode cX4_firstSmallFree 64 = .ok (.goto (-62), 3) := by decide +kernel
theorem dX4_firstSmallFree_67 : decode cX4_firstSmallFree 67 = .ok (.iconst (-1), 1) := by decide +kernel
theorem dX4_firstSmallFree_68 : decode cX4_firstSmallFree 68 = .ok (.ireturn, 1) := by decide +kernel
set_option maxRecDepth 20000 in
theorem ggX4_sendLargestSet_X2_inQueue : GoodIn wsX4_sendLargestSet wsX2_inQueue := goodIn_r _ [7, 8, 9, 10, 11, 12, 6, 13, 14, 15, 87, 88, 89, 90, 91, 92, 93] (by decide +kernel) (by decide +kernel)
set_option maxRecDepth 20000 in
theorem gX4_sendLargestSet_X2_inQueue : GoodIn wsX4_sendLargestSet (wsV RX4 145 RX2 yX2_inQueue wsX2_inQueue) := goodIn_app (goodIn_of _ (by decide +kernel)) ggX4_sendLargestSet_X2_inQueue
set_option maxRecDepth 20000 in
theorem ggX4_sendLargestSet_J6_bitCount_0f7a4 : GoodIn wsX4_sendLargestSet wsJ6_bitCount_0f7a4 := goodIn_r _ [19, 20, 21, 22] (by decide +kernel) (by decide +kernel)
set_option maxRecDepth 20000 in
theorem gX4_sendLargestSet_J6_bitCount_0f7a4 : GoodIn wsX4_sendLargestSet (va_wsS RX4 245 yJ6_bitCount_0f7a4 wsJ6_bitCount_0f7a4) := goodIn_app (goodIn_of _ (by decide +kernel)) ggX4_sendLargestSet_J6_bitCount_0f7a4
set_option maxRecDepth 20000 in
theorem ggX4_sendLargestSet_X4_canGoTogether : GoodIn wsX4_sendLargestSet wsX4_canGoTogether := goodIn_r _ [27, 28, 29, 1, 2, 30, 31, 32, 33, 34, 35, 36, 37, 38, 39, 40, 41, 42, 43, 26, 44, 45, 46, 47, 6, 48, 15, 49, 50, 51, 52, 53, 54, 55, 56, 57, 58, 59, 60, 61, 62, 63, 64, 65, 66, 67, 68, 69, 75, 76, 77, 78, 79, 80, 81, 82, 83, 84, 85, 86, 94, 95, 87, 88, 89, 90, 91, 92, 93, 96, 97] (by decide +kernel) (by decide +kernel)
set_option maxRecDepth 20000 in
theorem gX4_sendLargestSet_X4_canGoTogether : GoodIn wsX4_sendLargestSet (wsV RX4 157 RX4 yX4_canGoTogether wsX4_canGoTogether) := goodIn_app (goodIn_of _ (by decide +kernel)) ggX4_sendLargestSet_X4_canGoTogether
set_option maxRecDepth 20000 in
theorem ggX4_sendLargestSet_X4_isIn : GoodIn wsX4_sendLargestSet wsX4_isIn := goodIn_r _ [44] (by decide +kernel) (by decide +kernel)
set_option maxRecDepth 20000 in
theorem gX4_sendLargestSet_X4_isIn : GoodIn wsX4_sendLargestSet (va_wsS RX4 250 yX4_isIn wsX4_isIn) := goodIn_app (goodIn_of _ (by decide +kernel)) ggX4_sendLargestSet_X4_isIn
set_option maxRecDepth 20000 in
theorem ggX4_sendLargestSet_X4_send : GoodIn wsX4_sendLargestSet wsX4_send := goodIn_r _ [73, 2, 29, 74, 45, 46, 47, 6, 48, 15, 49, 50, 51, 52, 53, 34, 54, 36, 55, 56, 57, 58, 41, 59, 26, 60, 75, 76, 77, 78, 79, 80, 81, 82, 83, 84, 85, 86, 87, 88, 89, 90, 91, 92, 93, 94, 95] (by decide +kernel) (by decide +kernel)
set_option maxRecDepth 20000 in
theorem gX4_sendLargestSet_X4_send : GoodIn wsX4_sendLargestSet (wsV RX4 233 RX4 yX4_send wsX4_send) := goodIn_app (goodIn_of _ (by decide +kernel)) ggX4_sendLargestSet_X4_send
theorem dX4_sendLargestSet_0 : decode cX4_sendLargestSet 0 = .ok (.iconst 0, 1) := by decide +kernel
theorem dX4_sendLargestSet_1 : decode cX4_sendLargestSet 1 = .ok (.istore_n 1, 1) := by decide +kernel
theorem dX4_sendLargestSet_2 : decode cX4_sendLargestSet 2 = .ok (.iload_n 1, 1) := by decide +kernel
theorem dX4_sendLargestSet_3 : decode cX4_sendLargestSet 3 = .ok (.iconst 5, 1) := by decide +kernel
theorem dX4_sendLargestSet_4 : decode cX4_sendLargestSet 4 = .ok (.if_icmp .ge 24, 3) := by decide +kernel
theorem dX4_sendLargestSet_7 : decode cX4_sendLargestSet 7 = .ok (.aload_n 0, 1) := by decide +kernel
theorem dX4_sendLargestSet_8 : decode cX4_sendLargestSet 8 = .ok (.getfield 48, 3) := by decide +kernel
theorem dX4_sendLargestSet_11 : decode cX4_sendLargestSet 11 = .ok (.iload_n 1, 1) := by decide +kernel
theorem dX4_sendLargestSet_12 : decode cX4_sendLargestSet 12 = .ok (.aload_n 0, 1) := by decide +kernel
theorem dX4_sendLargestSet_13 : decode cX4_sendLargestSet 13 = .ok (.getfield 29, 3) := by decide +kernel
theorem dX4_sendLargestSet_16 : decode cX4_sendLargestSet 16 = .ok (.iload_n 1, 1) := by decide +kernel
theorem dX4_sendLargestSet_17 : decode cX4_sendLargestSet 17 = .ok (.iconst 0, 1) := by decide +kernel
theorem dX4_sendLargestSet_18 : decode cX4_sendLargestSet 18 = .ok (.invokevirtual 145, 3) := by decide +kernel
theorem dX4_sendLargestSet_21 : decode cX4_sendLargestSet 21 = .ok (.iastore, 1) := by decide +kernel
theorem dX4_sendLargestSet_22 : decode cX4_sendLargestSet 22 = .ok (.iinc 1 1, 3) := by decide +kernel
theorem dX4_sendLargestSet_25 : decode cX4_sendLargestSet 25 = .ok (.goto (-23), 3) := by decide +kernel
theorem dX4_sendLargestSet_28 : decode cX4_sendLargestSet 28 = .ok (.iconst 0, 1) := by decide +kernel
theorem dX4_sendLargestSet_29 : decode cX4_sendLargestSet 29 = .ok (.istore_n 1, 1) := by decide +kernel
theorem dX4_sendLargestSet_30 : decode cX4_sendLargestSet 30 = .ok (.iconst 1, 1) := by decide +kernel
theorem dX4_sendLargestSet_31 : decode cX4_sendLargestSet 31 = .ok (.istore_n 2, 1) := by decide +kernel
theorem dX4_sendLargestSet_32 : decode cX4_sendLargestSet 32 = .ok (.iload_n 2, 1) := by decide +kernel
theorem dX4_sendLargestSet_33 : decode cX4_sendLargestSet 33 = .ok (.bipush 32, 2) := by decide +kernel
theorem dX4_sendLargestSet_35 : decode cX4_sendLargestSet 35 = .ok (.if_icmp .ge 31, 3) := by decide +kernel
theorem dX4_sendLargestSet_38 : decode cX4_sendLargestSet 38 = .ok (.iload_n 2, 1) := by decide +kernel
theorem dX4_sendLargestSet_39 : decode cX4_sendLargestSet 39 = .ok (.invokestatic 245, 3) := by decide +kernel
theorem dX4_sendLargestSet_42 : decode cX4_sendLargestSet 42 = .ok (.iload_n 1, 1) := by decide +kernel
theorem dX4_sendLargestSet_43 : decode cX4_sendLargestSet 43 = .ok (.invokestatic 245, 3) := by decide +kernel
theorem dX4_sendLargestSet_46 : decode cX4_sendLargestSet 46 = .ok (.if_icmp .le 14, 3) := by decide +kernel
theorem dX4_sendLargestSet_49 : decode cX4_sendLargestSet 49 = .ok (.aload_n 0, 1) := by decide +kernel
theorem dX4_sendLargestSet_50 : decode cX4_sendLargestSet 50 = .ok (.iload_n 2, 1) := by decide +kernel
theorem dX4_sendLargestSet_51 : decode cX4_sendLargestSet 51 = .ok (.iconst 5, 1) := by decide +kernel
theorem dX4_sendLargestSet_52 : decode cX4_sendLargestSet 52 = .ok (.invokevirtual 157, 3) := by decide +kernel
theorem dX4_sendLargestSet_55 : decode cX4_sendLargestSet 55 = .ok (.ifCond .eq 5, 3) := by decide +kernel
theorem dX4_sendLargestSet_58 : decode cX4_sendLargestSet 58 = .ok (.iload_n 2, 1) := by decide +kernel
theorem dX4_sendLargestSet_59 : decode cX4_sendLargestSet 59 = .ok (.istore_n 1, 1) := by decide +kernel
theorem dX4_sendLargestSet_60 : decode cX4_sendLargestSet 60 = .ok (.iinc 2 1, 3) := by decide +kernel
theorem dX4_sendLargestSet_63 : decode cX4_sendLargestSet 63 = .ok (.goto (-31), 3) := by decide +kernel
theorem dX4_sendLargestSet_66 : decode cX4_sendLargestSet 66 = .ok (.iconst 0, 1) := by decide +kernel
theorem dX4_sendLargestSet_67 : decode cX4_sendLargestSet 67 = .ok (.istore_n 2, 1) := by decide +kernel
theorem dX4_sendLargestSet_68 : decode cX4_sendLargestSet 68 = .ok (.iload_n 2, 1) := by decide +kernel
theorem dX4_sendLargestSet_69 : decode cX4_sendLargestSet 69 = .ok (.iconst 5, 1) := by decide +kernel
theorem dX4_sendLargestSet_70 : decode cX4_sendLargestSet 70 = .ok (.if_icmp .ge 27, 3) := by decide +kernel
theorem dX4_sendLargestSet_73 : decode cX4_sendLargestSet 73 = .ok (.iload_n 1, 1) := by decide +kernel
theorem dX4_sendLargestSet_74 : decode cX4_sendLargestSet 74 = .ok (.iload_n 2, 1) := by decide +kernel
theorem dX4_sendLargestSet_75 : decode cX4_sendLargestSet 75 = .ok (.invokestatic 250, 3) := by decide +kernel
theorem dX4_sendLargestSet_78 : decode cX4_sendLargestSet 78 = .ok (.ifCond .eq 13, 3) := by decide +kernel
theorem dX4_sendLargestSet_81 : decode cX4_sendLargestSet 81 = .ok (.aload_n 0, 1) := by decide +kernel
theorem dX4_sendLargestSet_82 : decode cX4_sendLargestSet 82 = .ok (.aload_n 0, 1) := by decide +kernel
theorem dX4_sendLargestSet_83 : decode cX4_sendLargestSet 83 = .ok (.getfield 48, 3) := by decide +kernel
theorem dX4_sendLargestSet_86 : decode cX4_sendLargestSet 86 = .ok (.iload_n 2, 1) := by decide +kernel
theorem dX4_sendLargestSet_87 : decode cX4_sendLargestSet 87 = .ok (.iaload, 1) := by decide +kernel
theorem dX4_sendLargestSet_88 : decode cX4_sendLargestSet 88 = .ok (.invokevirtual 233, 3) := by decide +kernel
theorem dX4_sendLargestSet_91 : decode cX4_sendLargestSet 91 = .ok (.iinc 2 1, 3) := by decide +kernel
theorem dX4_sendLargestSet_94 : decode cX4_sendLargestSet 94 = .ok (.goto (-26), 3) := by decide +kernel
theorem dX4_sendLargestSet_97 : decode cX4_sendLargestSet 97 = .ok (.iload_n 1, 1) := by decide +kernel
theorem dX4_sendLargestSet_98 : decode cX4_sendLargestSet 98 = .ok (.invokestatic 245, 3) := by decide +kernel
theorem dX4_sendLargestSet_101 : decode cX4_sendLargestSet 101 = .ok (.ireturn, 1) := by decide +kernel
theorem dX4_listWaiting_0 : decode cX4_listWaiting 0 = .ok (.iconst 0, 1) := by decide +kernel
theorem dX4_listWaiting_1 : decode cX4_listWaiting 1 = .ok (.istore_n 1, 1) := by decide +kernel
theorem dX4_listWaiting_2 : decode cX4_listWaiting 2 = .ok (.iconst 0, 1) := by decide +kernel
theorem dX4_listWaiting_3 : decode cX4_listWaiting 3 = .ok (.istore_n 2, 1) := by decide +kernel
theorem dX4_listWaiting_4 : decode cX4_listWaiting 4 = .ok (.iload_n 2, 1) := by decide +kernel
theorem dX4_listWaiting_5 : decode cX4_listWaiting 5 = .ok (.aload_n 0, 1) := by decide +kernel
theorem dX4_listWaiting_6 : decode cX4_listWaiting 6 = .ok (.getfield 29, 3) := by decide +kernel
theorem dX4_listWaiting_9 : decode cX4_listWaiting 9 = .ok (.getfield 113, 3) := by decide +kernel
theorem dX4_listWaiting_12 : decode cX4_listWaiting 12 = .ok (.if_icmp .ge 37, 3) := by decide +kernel
theorem dX4_listWaiting_15 : decode cX4_listWaiting 15 = .ok (.iload_n 1, 1) := by decide +kernel
theorem dX4_listWaiting_16 : decode cX4_listWaiting 16 = .ok (.bipush 10, 2) := by decide +kernel
theorem dX4_listWaiting_18 : decode cX4_listWaiting 18 = .ok (.if_icmp .ge 31, 3) := by decide +kernel
theorem dX4_listWaiting_21 : decode cX4_listWaiting 21 = .ok (.aload_n 0, 1) := by decide +kernel
theorem dX4_listWaiting_22 : decode cX4_listWaiting 22 = .ok (.getfield 29, 3) := by decide +kernel
theorem dX4_listWaiting_25 : decode cX4_listWaiting 25 = .ok (.getfield 125, 3) := by decide +kernel
theorem dX4_listWaiting_28 : decode cX4_listWaiting 28 = .ok (.iload_n 2, 1) := by decide +kernel
theorem dX4_listWaiting_29 : decode cX4_listWaiting 29 = .ok (.baload, 1) := by decide +kernel
theorem dX4_listWaiting_30 : decode cX4_listWaiting 30 = .ok (.ifCond .eq 13, 3) := by decide +kernel
theorem dX4_listWaiting_33 : decode cX4_listWaiting 33 = .ok (.aload_n 0, 1) := by decide +kernel
theorem dX4_listWaiting_34 : decode cX4_listWaiting 34 = .ok (.getfield 48, 3) := by decide +kernel
theorem dX4_listWaiting_37 : decode cX4_listWaiting 37 = .ok (.iload_n 1, 1) := by decide +kernel
theorem dX4_listWaiting_38 : decode cX4_listWaiting 38 = .ok (.iload_n 2, 1) := by decide +kernel
theorem dX4_listWaiting_39 : decode cX4_listWaiting 39 = .ok (.iastore, 1) := by decide +kernel
theorem dX4_listWaiting_40 : decode cX4_listWaiting 40 = .ok (.iinc 1 1, 3) := by decide +kernel
theorem dX4_listWaiting_43 : decode cX4_listWaiting 43 = .ok (.iinc 2 1, 3) := by decide +kernel
theorem dX4_listWaiting_46 : decode cX4_listWaiting 46 = .ok (.goto (-42), 3) := by decide +kernel
theorem dX4_listWaiting_49 : decode cX4_listWaiting 49 = .ok (.iload_n 1, 1) := by decide +kernel
theorem dX4_listWaiting_50 : decode cX4_listWaiting 50 = .ok (.ireturn, 1) := by decide +kernel
set_option maxRecDepth 20000 in
theorem ggX4_canGoTogether_X3_copy : GoodIn wsX4_canGoTogether wsX3_copy := goodIn_r _ [10, 11, 12, 13, 14, 15, 16, 60, 61] (by decide +kernel) (by decide +kernel)
set_option maxRecDepth 20000 in
theorem gX4_canGoTogether_X3_copy : GoodIn wsX4_canGoTogether (wsV RX4 253 RX3 yX3_copy wsX3_copy) := goodIn_app (goodIn_of _ (by decide +kernel)) ggX4_canGoTogether_X3_copy
set_option maxRecDepth 20000 in
theorem ggX4_canGoTogether_X4_isIn : GoodIn wsX4_canGoTogether wsX4_isIn := goodIn_r _ [20] (by decide +kernel) (by decide +kernel)
set_option maxRecDepth 20000 in
theorem gX4_canGoTogether_X4_isIn : GoodIn wsX4_canGoTogether (va_wsS RX4 250 yX4_isIn wsX4_isIn) := goodIn_app (goodIn_of _ (by decide +kernel)) ggX4_canGoTogether_X4_isIn
set_option maxRecDepth 20000 in
theorem ggX4_canGoTogether_X2_apply : GoodIn wsX4_canGoTogether wsX2_apply := goodIn_r _ [25, 26, 27, 28, 29, 30, 31, 9, 32, 11, 33, 34, 35, 36, 16, 37, 19, 38, 62, 63, 64, 65, 66, 67, 68, 60, 61] (by decide +kernel) (by decide +kernel)
set_option maxRecDepth 20000 in
theorem gX4_canGoTogether_X2_apply : GoodIn wsX4_canGoTogether (wsV RX4 226 RX2 yX2_apply wsX2_apply) := goodIn_app (goodIn_of _ (by decide +kernel)) ggX4_canGoTogether_X2_apply
set_option maxRecDepth 20000 in
theorem ggX4_canGoTogether_X0_allow : GoodIn wsX4_canGoTogether wsX0_allow := goodIn_r _ [43, 44, 45, 46, 47, 60, 61, 69, 70] (by decide +kernel) (by decide +kernel)
set_option maxRecDepth 20000 in
theorem gX4_canGoTogether_X0_allow : GoodIn wsX4_canGoTogether (wsV RX4 257 RX0 yX0_allow wsX0_allow) := goodIn_app (goodIn_of _ (by decide +kernel)) ggX4_canGoTogether_X0_allow
theorem dX4_canGoTogether_0 : decode cX4_canGoTogether 0 = .ok (.aload_n 0, 1) := by decide +kernel
theorem dX4_canGoTogether_1 : decode cX4_canGoTogether 1 = .ok (.getfield 16, 3) := by decide +kernel
theorem dX4_canGoTogether_4 : decode cX4_canGoTogether 4 = .ok (.aload_n 0, 1) := by decide +kernel
theorem dX4_canGoTogether_5 : decode cX4_canGoTogether 5 = .ok (.getfield 10, 3) := by decide +kernel
theorem dX4_canGoTogether_8 : decode cX4_canGoTogether 8 = .ok (.invokevirtual 253, 3) := by decide +kernel
theorem dX4_canGoTogether_11 : decode cX4_canGoTogether 11 = .ok (.iconst 0, 1) := by decide +kernel
theorem dX4_canGoTogether_12 : decode cX4_canGoTogether 12 = .ok (.istore_n 3, 1) := by decide +kernel
theorem dX4_canGoTogether_13 : decode cX4_canGoTogether 13 = .ok (.iload_n 3, 1) := by decide +kernel
theorem dX4_canGoTogether_14 : decode cX4_canGoTogether 14 = .ok (.iload_n 2, 1) := by decide +kernel
theorem dX4_canGoTogether_15 : decode cX4_canGoTogether 15 = .ok (.if_icmp .ge 46, 3) := by decide +kernel
theorem dX4_canGoTogether_18 : decode cX4_canGoTogether 18 = .ok (.iload_n 1, 1) := by decide +kernel
theorem dX4_canGoTogether_19 : decode cX4_canGoTogether 19 = .ok (.iload_n 3, 1) := by decide +kernel
theorem dX4_canGoTogether_20 : decode cX4_canGoTogether 20 = .ok (.invokestatic 250, 3) := by decide +kernel
theorem dX4_canGoTogether_23 : decode cX4_canGoTogether 23 = .ok (.ifCond .eq 32, 3) := by decide +kernel
theorem dX4_canGoTogether_26 : decode cX4_canGoTogether 26 = .ok (.aload_n 0, 1) := by decide +kernel
theorem dX4_canGoTogether_27 : decode cX4_canGoTogether 27 = .ok (.getfield 48, 3) := by decide +kernel
theorem dX4_canGoTogether_30 : decode cX4_canGoTogether 30 = .ok (.iload_n 3, 1) := by decide +kernel
theorem dX4_canGoTogether_31 : decode cX4_canGoTogether 31 = .ok (.iaload, 1) := by decide +kernel
theorem dX4_canGoTogether_32 : decode cX4_canGoTogether 32 = .ok (.iconst (-1), 1) := by decide +kernel
theorem dX4_canGoTogether_33 : decode cX4_canGoTogether 33 = .ok (.if_icmp .ne 5, 3) := by decide +kernel
theorem dX4_canGoTogether_36 : decode cX4_canGoTogether 36 = .ok (.iconst 0, 1) := by decide +kernel
theorem dX4_canGoTogether_37 : decode cX4_canGoTogether 37 = .ok (.ireturn, 1) := by decide +kernel
theorem dX4_canGoTogether_38 : decode cX4_canGoTogether 38 = .ok (.aload_n 0, 1) := by decide +kernel
theorem dX4_canGoTogether_39 : decode cX4_canGoTogether 39 = .ok (.getfield 29, 3) := by decide +kernel
theorem dX4_canGoTogether_42 : decode cX4_canGoTogether 42 = .ok (.aload_n 0, 1) := by decide +kernel
theorem dX4_canGoTogether_43 : decode cX4_canGoTogether 43 = .ok (.getfield 48, 3) := by decide +kernel
theorem dX4_canGoTogether_46 : decode cX4_canGoTogether 46 = .ok (.iload_n 3, 1) := by decide +kernel
theorem dX4_canGoTogether_47 : decode cX4_canGoTogether 47 = .ok (.iaload, 1) := by decide +kernel
theorem dX4_canGoTogether_48 : decode cX4_canGoTogether 48 = .ok (.aload_n 0, 1) := by decide +kernel
theorem dX4_canGoTogether_49 : decode cX4_canGoTogether 49 = .ok (.getfield 16, 3) := by decide +kernel
theorem dX4_canGoTogether_52 : decode cX4_canGoTogether 52 = .ok (.invokevirtual 226, 3) := by decide +kernel
theorem dX4_canGoTogether_55 : decode cX4_canGoTogether 55 = .ok (.iinc 3 1, 3) := by decide +kernel
theorem dX4_canGoTogether_58 : decode cX4_canGoTogether 58 = .ok (.goto (-45), 3) := by decide +kernel
theorem dX4_canGoTogether_61 : decode cX4_canGoTogether 61 = .ok (.aload_n 0, 1) := by decide +kernel
theorem dX4_canGoTogether_62 : decode cX4_canGoTogether 62 = .ok (.getfield 22, 3) := by decide +kernel
theorem dX4_canGoTogether_65 : decode cX4_canGoTogether 65 = .ok (.aload_n 0, 1) := by decide +kernel
theorem dX4_canGoTogether_66 : decode cX4_canGoTogether 66 = .ok (.getfield 16, 3) := by decide +kernel
theorem dX4_canGoTogether_69 : decode cX4_canGoTogether 69 = .ok (.invokevirtual 257, 3) := by decide +kernel
theorem dX4_canGoTogether_72 : decode cX4_canGoTogether 72 = .ok (.ireturn, 1) := by decide +kernel
theorem dX4_isIn_0 : decode cX4_isIn 0 = .ok (.iload_n 0, 1) := by decide +kernel
theorem dX4_isIn_1 : decode cX4_isIn 1 = .ok (.iconst 1, 1) := by decide +kernel
theorem dX4_isIn_2 : decode cX4_isIn 2 = .ok (.iload_n 1, 1) := by decide +kernel
theorem dX4_isIn_3 : decode cX4_isIn 3 = .ok (.ishl, 1) := by decide +kernel
theorem dX4_isIn_4 : decode cX4_isIn 4 = .ok (.iand, 1) := by decide +kernel
theorem dX4_isIn_5 : decode cX4_isIn 5 = .ok (.ifCond .eq 7, 3) := by decide +kernel
theorem dX4_isIn_8 : decode cX4_isIn 8 = .ok (.iconst 1, 1) := by decide +kernel
theorem dX4_isIn_9 : decode cX4_isIn 9 = .ok (.goto 4, 3) := by decide +kernel
theorem dX4_isIn_12 : decode cX4_isIn 12 = .ok (.iconst 0, 1) := by decide +kernel
theorem dX4_isIn_13 : decode cX4_isIn 13 = .ok (.ireturn, 1) := by decide +kernel
theorem dX4_pledgeWorth_0 : decode cX4_pledgeWorth 0 = .ok (.iload_n 1, 1) := by decide +kernel
theorem dX4_pledgeWorth_1 : decode cX4_pledgeWorth 1 = .ok (.aload_n 0, 1) := by decide +kernel
theorem dX4_pledgeWorth_2 : decode cX4_pledgeWorth 2 = .ok (.getfield 55, 3) := by decide +kernel
theorem dX4_pledgeWorth_5 : decode cX4_pledgeWorth 5 = .ok (.imul, 1) := by decide +kernel
theorem dX4_pledgeWorth_6 : decode cX4_pledgeWorth 6 = .ok (.sipush 1000, 3) := by decide +kernel
theorem dX4_pledgeWorth_9 : decode cX4_pledgeWorth 9 = .ok (.aload_n 0, 1) := by decide +kernel
theorem dX4_pledgeWorth_10 : decode cX4_pledgeWorth 10 = .ok (.getfield 58, 3) := by decide +kernel
theorem dX4_pledgeWorth_13 : decode cX4_pledgeWorth 13 = .ok (.isub, 1) := by decide +kernel
theorem dX4_pledgeWorth_14 : decode cX4_pledgeWorth 14 = .ok (.imul, 1) := by decide +kernel
theorem dX4_pledgeWorth_15 : decode cX4_pledgeWorth 15 = .ok (.sipush 1000, 3) := by decide +kernel
theorem dX4_pledgeWorth_18 : decode cX4_pledgeWorth 18 = .ok (.idiv, 1) := by decide +kernel
theorem dX4_pledgeWorth_19 : decode cX4_pledgeWorth 19 = .ok (.ireturn, 1) := by decide +kernel
theorem dX4_canRepay_0 : decode cX4_canRepay 0 = .ok (.aload_n 0, 1) := by decide +kernel
theorem dX4_canRepay_1 : decode cX4_canRepay 1 = .ok (.getfield 36, 3) := by decide +kernel
theorem dX4_canRepay_4 : decode cX4_canRepay 4 = .ok (.getfield 183, 3) := by decide +kernel
theorem dX4_canRepay_7 : decode cX4_canRepay 7 = .ok (.iload_n 1, 1) := by decide +kernel
theorem dX4_canRepay_8 : decode cX4_canRepay 8 = .ok (.iaload, 1) := by decide +kernel
theorem dX4_canRepay_9 : decode cX4_canRepay 9 = .ok (.istore_n 2, 1) := by decide +kernel
theorem dX4_canRepay_10 : decode cX4_canRepay 10 = .ok (.aload_n 0, 1) := by decide +kernel
theorem dX4_canRepay_11 : decode cX4_canRepay 11 = .ok (.getfield 40, 3) := by decide +kernel
theorem dX4_canRepay_14 : decode cX4_canRepay 14 = .ok (.iload_n 2, 1) := by decide +kernel
theorem dX4_canRepay_15 : decode cX4_canRepay 15 = .ok (.baload, 1) := by decide +kernel
theorem dX4_canRepay_16 : decode cX4_canRepay 16 = .ok (.ifCond .ne 38, 3) := by decide +kernel
theorem dX4_canRepay_19 : decode cX4_canRepay 19 = .ok (.aload_n 0, 1) := by decide +kernel
theorem dX4_canRepay_20 : decode cX4_canRepay 20 = .ok (.getfield 10, 3) := by decide +kernel
theorem dX4_canRepay_23 : decode cX4_canRepay 23 = .ok (.getfield 73, 3) := by decide +kernel
theorem dX4_canRepay_26 : decode cX4_canRepay 26 = .ok (.iload_n 2, 1) := by decide +kernel
theorem dX4_canRepay_27 : decode cX4_canRepay 27 = .ok (.iaload, 1) := by decide +kernel
theorem dX4_canRepay_28 : decode cX4_canRepay 28 = .ok (.aload_n 0, 1) := by decide +kernel
theorem dX4_canRepay_29 : decode cX4_canRepay 29 = .ok (.getfield 36, 3) := by decide +kernel
theorem dX4_canRepay_32 : decode cX4_canRepay 32 = .ok (.getfield 261, 3) := by decide +kernel
theorem dX4_canRepay_35 : decode cX4_canRepay 35 = .ok (.iload_n 1, 1) := by decide +kernel
theorem dX4_canRepay_36 : decode cX4_canRepay 36 = .ok (.iaload, 1) := by decide +kernel
theorem dX4_canRepay_37 : decode cX4_canRepay 37 = .ok (.isub, 1) := by decide +kernel
theorem dX4_canRepay_38 : decode cX4_canRepay 38 = .ok (.aload_n 0, 1) := by decide +kernel
theorem dX4_canRepay_39 : decode cX4_canRepay 39 = .ok (.getfield 22, 3) := by decide +kernel
theorem dX4_canRepay_42 : decode cX4_canRepay 42 = .ok (.getfield 91, 3) := by decide +kernel
theorem dX4_canRepay_45 : decode cX4_canRepay 45 = .ok (.iload_n 2, 1) := by decide +kernel
theorem dX4_canRepay_46 : decode cX4_canRepay 46 = .ok (.iaload, 1) := by decide +kernel
theorem dX4_canRepay_47 : decode cX4_canRepay 47 = .ok (.if_icmp .lt 7, 3) := by decide +kernel
theorem dX4_canRepay_50 : decode cX4_canRepay 50 = .ok (.iconst 1, 1) := by decide +kernel
theorem dX4_canRepay_51 : decode cX4_canRepay 51 = .ok (.goto 4, 3) := by decide +kernel
theorem dX4_canRepay_54 : decode cX4_canRepay 54 = .ok (.iconst 0, 1) := by decide +kernel
theorem dX4_canRepay_55 : decode cX4_canRepay 55 = .ok (.ireturn, 1) := by decide +kernel
set_option maxRecDepth 20000 in
theorem ggX4_repay_X3_move : GoodIn wsX4_repay wsX3_move := goodIn_r _ [12, 13, 32, 33] (by decide +kernel) (by decide +kernel)
set_option maxRecDepth 20000 in
theorem gX4_repay_X3_move : GoodIn wsX4_repay (wsV RX4 165 RX3 yX3_move wsX3_move) := goodIn_app (goodIn_of _ (by decide +kernel)) ggX4_repay_X3_move
theorem dX4_repay_0 : decode cX4_repay 0 = .ok (.aload_n 0, 1) := by decide +kernel
theorem dX4_repay_1 : decode cX4_repay 1 = .ok (.getfield 36, 3) := by decide +kernel
theorem dX4_repay_4 : decode cX4_repay 4 = .ok (.getfield 183, 3) := by decide +kernel
theorem dX4_repay_7 : decode cX4_repay 7 = .ok (.iload_n 1, 1) := by decide +kernel
theorem dX4_repay_8 : decode cX4_repay 8 = .ok (.iaload, 1) := by decide +kernel
theorem dX4_repay_9 : decode cX4_repay 9 = .ok (.istore_n 2, 1) := by decide +kernel
theorem dX4_repay_10 : decode cX4_repay 10 = .ok (.aload_n 0, 1) := by decide +kernel
theorem dX4_repay_11 : decode cX4_repay 11 = .ok (.getfield 10, 3) := by decide +kernel
theorem dX4_repay_14 : decode cX4_repay 14 = .ok (.iload_n 2, 1) := by decide +kernel
theorem dX4_repay_15 : decode cX4_repay 15 = .ok (.aload_n 0, 1) := by decide +kernel
theorem dX4_repay_16 : decode cX4_repay 16 = .ok (.getfield 36, 3) := by decide +kernel
theorem dX4_repay_19 : decode cX4_repay 19 = .ok (.getfield 264, 3) := by decide +kernel
theorem dX4_repay_22 : decode cX4_repay 22 = .ok (.iload_n 1, 1) := by decide +kernel
theorem dX4_repay_23 : decode cX4_repay 23 = .ok (.iaload, 1) := by decide +kernel
theorem dX4_repay_24 : decode cX4_repay 24 = .ok (.aload_n 0, 1) := by decide +kernel
theorem dX4_repay_25 : decode cX4_repay 25 = .ok (.getfield 36, 3) := by decide +kernel
theorem dX4_repay_28 : decode cX4_repay 28 = .ok (.getfield 261, 3) := by decide +kernel
theorem dX4_repay_31 : decode cX4_repay 31 = .ok (.iload_n 1, 1) := by decide +kernel
theorem dX4_repay_32 : decode cX4_repay 32 = .ok (.iaload, 1) := by decide +kernel
theorem dX4_repay_33 : decode cX4_repay 33 = .ok (.invokevirtual 165, 3) := by decide +kernel
theorem dX4_repay_36 : decode cX4_repay 36 = .ok (.aload_n 0, 1) := by decide +kernel
theorem dX4_repay_37 : decode cX4_repay 37 = .ok (.getfield 44, 3) := by decide +kernel
theorem dX4_repay_40 : decode cX4_repay 40 = .ok (.iload_n 2, 1) := by decide +kernel
theorem dX4_repay_41 : decode cX4_repay 41 = .ok (.dup2, 1) := by decide +kernel
theorem dX4_repay_42 : decode cX4_repay 42 = .ok (.iaload, 1) := by decide +kernel
theorem dX4_repay_43 : decode cX4_repay 43 = .ok (.aload_n 0, 1) := by decide +kernel
theorem dX4_repay_44 : decode cX4_repay 44 = .ok (.getfield 36, 3) := by decide +kernel
theorem dX4_repay_47 : decode cX4_repay 47 = .ok (.getfield 267, 3) := by decide +kernel
theorem dX4_repay_50 : decode cX4_repay 50 = .ok (.iload_n 1, 1) := by decide +kernel
theorem dX4_repay_51 : decode cX4_repay 51 = .ok (.iaload, 1) := by decide +kernel
theorem dX4_repay_52 : decode cX4_repay 52 = .ok (.iadd, 1) := by decide +kernel
theorem dX4_repay_53 : decode cX4_repay 53 = .ok (.iastore, 1) := by decide +kernel
theorem dX4_repay_54 : decode cX4_repay 54 = .ok (.return_, 1) := by decide +kernel
set_option maxRecDepth 20000 in
theorem ggX4_close_X2_dropAllOf : GoodIn wsX4_close wsX2_dropAllOf := goodIn_r _ [7, 8, 9, 10, 11, 24, 25, 26, 27, 28, 29, 30] (by decide +kernel) (by decide +kernel)
set_option maxRecDepth 20000 in
theorem gX4_close_X2_dropAllOf : GoodIn wsX4_close (wsV RX4 270 RX2 yX2_dropAllOf wsX2_dropAllOf) := goodIn_app (goodIn_of _ (by decide +kernel)) ggX4_close_X2_dropAllOf
theorem dX4_close_0 : decode cX4_close 0 = .ok (.aload_n 0, 1) := by decide +kernel
theorem dX4_close_1 : decode cX4_close 1 = .ok (.getfield 40, 3) := by decide +kernel
theorem dX4_close_4 : decode cX4_close 4 = .ok (.iload_n 1, 1) := by decide +kernel
theorem dX4_close_5 : decode cX4_close 5 = .ok (.baload, 1) := by decide +kernel
theorem dX4_close_6 : decode cX4_close 6 = .ok (.ifCond .eq 5, 3) := by decide +kernel
theorem dX4_close_9 : decode cX4_close 9 = .ok (.iconst 0, 1) := by decide +kernel
theorem dX4_close_10 : decode cX4_close 10 = .ok (.ireturn, 1) := by decide +kernel
theorem dX4_close_11 : decode cX4_close 11 = .ok (.aload_n 0, 1) := by decide +kernel
theorem dX4_close_12 : decode cX4_close 12 = .ok (.getfield 40, 3) := by decide +kernel
theorem dX4_close_15 : decode cX4_close 15 = .ok (.iload_n 1, 1) := by decide +kernel
theorem dX4_close_16 : decode cX4_close 16 = .ok (.iconst 1, 1) := by decide +kernel
theorem dX4_close_17 : decode cX4_close 17 = .ok (.bastore, 1) := by decide +kernel
theorem dX4_close_18 : decode cX4_close 18 = .ok (.aload_n 0, 1) := by decide +kernel
theorem dX4_close_19 : decode cX4_close 19 = .ok (.getfield 29, 3) := by decide +kernel
theorem dX4_close_22 : decode cX4_close 22 = .ok (.iload_n 1, 1) := by decide +kernel
theorem dX4_close_23 : decode cX4_close 23 = .ok (.invokevirtual 270, 3) := by decide +kernel
theorem dX4_close_26 : decode cX4_close 26 = .ok (.iconst 1, 1) := by decide +kernel
theorem dX4_close_27 : decode cX4_close 27 = .ok (.ireturn, 1) := by decide +kernel
theorem dX4_sellPledge_0 : decode cX4_sellPledge 0 = .ok (.aload_n 0, 1) := by decide +kernel
theorem dX4_sellPledge_1 : decode cX4_sellPledge 1 = .ok (.getfield 36, 3) := by decide +kernel
theorem dX4_sellPledge_4 : decode cX4_sellPledge 4 = .ok (.getfield 267, 3) := by decide +kernel
theorem dX4_sellPledge_7 : decode cX4_sellPledge 7 = .ok (.iload_n 1, 1) := by decide +kernel
theorem dX4_sellPledge_8 : decode cX4_sellPledge 8 = .ok (.iaload, 1) := by decide +kernel
theorem dX4_sellPledge_9 : decode cX4_sellPledge 9 = .ok (.aload_n 0, 1) := by decide +kernel
theorem dX4_sellPledge_10 : decode cX4_sellPledge 10 = .ok (.getfield 55, 3) := by decide +kernel
theorem dX4_sellPledge_13 : decode cX4_sellPledge 13 = .ok (.imul, 1) := by decide +kernel
theorem dX4_sellPledge_14 : decode cX4_sellPledge 14 = .ok (.istore_n 2, 1) := by decide +kernel
theorem dX4_sellPledge_15 : decode cX4_sellPledge 15 = .ok (.iload_n 2, 1) := by decide +kernel
theorem dX4_sellPledge_16 : decode cX4_sellPledge 16 = .ok (.aload_n 0, 1) := by decide +kernel
theorem dX4_sellPledge_17 : decode cX4_sellPledge 17 = .ok (.getfield 36, 3) := by decide +kernel
theorem dX4_sellPledge_20 : decode cX4_sellPledge 20 = .ok (.getfield 261, 3) := by decide +kernel
theorem dX4_sellPledge_23 : decode cX4_sellPledge 23 = .ok (.iload_n 1, 1) := by decide +kernel
theorem dX4_sellPledge_24 : decode cX4_sellPledge 24 = .ok (.iaload, 1) := by decide +kernel
theorem dX4_sellPledge_25 : decode cX4_sellPledge 25 = .ok (.invokestatic 85, 3) := by decide +kernel
theorem dX4_sellPledge_28 : decode cX4_sellPledge 28 = .ok (.istore_n 3, 1) := by decide +kernel
theorem dX4_sellPledge_29 : decode cX4_sellPledge 29 = .ok (.aload_n 0, 1) := by decide +kernel
theorem dX4_sellPledge_30 : decode cX4_sellPledge 30 = .ok (.getfield 10, 3) := by decide +kernel
theorem dX4_sellPledge_33 : decode cX4_sellPledge 33 = .ok (.getfield 73, 3) := by decide +kernel
theorem dX4_sellPledge_36 : decode cX4_sellPledge 36 = .ok (.aload_n 0, 1) := by decide +kernel
theorem dX4_sellPledge_37 : decode cX4_sellPledge 37 = .ok (.getfield 36, 3) := by decide +kernel
theorem dX4_sellPledge_40 : decode cX4_sellPledge 40 = .ok (.getfield 264, 3) := by decide +kernel
theorem dX4_sellPledge_43 : decode cX4_sellPledge 43 = .ok (.iload_n 1, 1) := by decide +kernel
theorem dX4_sellPledge_44 : decode cX4_sellPledge 44 = .ok (.iaload, 1) := by decide +kernel
theorem dX4_sellPledge_45 : decode cX4_sellPledge 45 = .ok (.dup2, 1) := by decide +kernel
theorem dX4_sellPledge_46 : decode cX4_sellPledge 46 = .ok (.iaload, 1) := by decide +kernel
theorem dX4_sellPledge_47 : decode cX4_sellPledge 47 = .ok (.iload_n 3, 1) := by decide +kernel
theorem dX4_sellPledge_48 : decode cX4_sellPledge 48 = .ok (.iadd, 1) := by decide +kernel
theorem dX4_sellPledge_49 : decode cX4_sellPledge 49 = .ok (.iastore, 1) := by decide +kernel
theorem dX4_sellPledge_50 : decode cX4_sellPledge 50 = .ok (.aload_n 0, 1) := by decide +kernel
theorem dX4_sellPledge_51 : decode cX4_sellPledge 51 = .ok (.getfield 10, 3) := by decide +kernel
theorem dX4_sellPledge_54 : decode cX4_sellPledge 54 = .ok (.getfield 73, 3) := by decide +kernel
theorem dX4_sellPledge_57 : decode cX4_sellPledge 57 = .ok (.aload_n 0, 1) := by decide +kernel
theorem dX4_sellPledge_58 : decode cX4_sellPledge 58 = .ok (.getfield 36, 3) := by decide +kernel
theorem dX4_sellPledge_61 : decode cX4_sellPledge 61 = .ok (.getfield 183, 3) := by decide +kernel
theorem dX4_sellPledge_64 : decode cX4_sellPledge 64 = .ok (.iload_n 1, 1) := by decide +kernel
theorem dX4_sellPledge_65 : decode cX4_sellPledge 65 = .ok (.iaload, 1) := by decide +kernel
theorem dX4_sellPledge_66 : decode cX4_sellPledge 66 = .ok (.dup2, 1) := by decide +kernel
theorem dX4_sellPledge_67 : decode cX4_sellPledge 67 = .ok (.iaload, 1) := by decide +kernel
theorem dX4_sellPledge_68 : decode cX4_sellPledge 68 = .ok (.iload_n 2, 1) := by decide +kernel
theorem dX4_sellPledge_69 : decode cX4_sellPledge 69 = .ok (.iload_n 3, 1) := by decide +kernel
theorem dX4_sellPledge_70 : decode cX4_sellPledge 70 = .ok (.isub, 1) := by decide +kernel
theorem dX4_sellPledge_71 : decode cX4_sellPledge 71 = .ok (.iadd, 1) := by decide +kernel
theorem dX4_sellPledge_72 : decode cX4_sellPledge 72 = .ok (.iastore, 1) := by decide +kernel
theorem dX4_sellPledge_73 : decode cX4_sellPledge 73 = .ok (.aload_n 0, 1) := by decide +kernel
theorem dX4_sellPledge_74 : decode cX4_sellPledge 74 = .ok (.dup, 1) := by decide +kernel
theorem dX4_sellPledge_75 : decode cX4_sellPledge 75 = .ok (.getfield 192, 3) := by decide +kernel
theorem dX4_sellPledge_78 : decode cX4_sellPledge 78 = .ok (.iload_n 2, 1) := by decide +kernel
theorem dX4_sellPledge_79 : decode cX4_sellPledge 79 = .ok (.iadd, 1) := by decide +kernel
theorem dX4_sellPledge_80 : decode cX4_sellPledge 80 = .ok (.putfield 192, 3) := by decide +kernel
theorem dX4_sellPledge_83 : decode cX4_sellPledge 83 = .ok (.return_, 1) := by decide +kernel
end
section
theorem dX5_init_0 : decode cX5_init 0 = .ok (.aload_n 0, 1) := by decide +kernel
theorem dX5_init_1 : decode cX5_init 1 = .ok (.invokespecial 1, 3) := by decide +kernel
theorem dX5_init_4 : decode cX5_init 4 = .ok (.aload_n 0, 1) := by decide +kernel
theorem dX5_init_5 : decode cX5_init 5 = .ok (.iconst 5, 1) := by decide +kernel
theorem dX5_init_6 : decode cX5_init 6 = .ok (.newarray .int, 2) := by decide +kernel
theorem dX5_init_8 : decode cX5_init 8 = .ok (.putfield 7, 3) := by decide +kernel
theorem dX5_init_11 : decode cX5_init 11 = .ok (.aload_n 0, 1) := by decide +kernel
theorem dX5_init_12 : decode cX5_init 12 = .ok (.iconst 5, 1) := by decide +kernel
theorem dX5_init_13 : decode cX5_init 13 = .ok (.newarray .int, 2) := by decide +kernel
theorem dX5_init_15 : decode cX5_init 15 = .ok (.putfield 13, 3) := by decide +kernel
theorem dX5_init_18 : decode cX5_init 18 = .ok (.aload_n 0, 1) := by decide +kernel
theorem dX5_init_19 : decode cX5_init 19 = .ok (.iconst 5, 1) := by decide +kernel
theorem dX5_init_20 : decode cX5_init 20 = .ok (.newarray .int, 2) := by decide +kernel
theorem dX5_init_22 : decode cX5_init 22 = .ok (.putfield 16, 3) := by decide +kernel
theorem dX5_init_25 : decode cX5_init 25 = .ok (.aload_n 0, 1) := by decide +kernel
theorem dX5_init_26 : decode cX5_init 26 = .ok (.iconst 5, 1) := by decide +kernel
theorem dX5_init_27 : decode cX5_init 27 = .ok (.newarray .boolean, 2) := by decide +kernel
theorem dX5_init_29 : decode cX5_init 29 = .ok (.putfield 19, 3) := by decide +kernel
theorem dX5_init_32 : decode cX5_init 32 = .ok (.aload_n 0, 1) := by decide +kernel
theorem dX5_init_33 : decode cX5_init 33 = .ok (.bipush 25, 2) := by decide +kernel
theorem dX5_init_35 : decode cX5_init 35 = .ok (.newarray .int, 2) := by decide +kernel
theorem dX5_init_37 : decode cX5_init 37 = .ok (.putfield 23, 3) := by decide +kernel
theorem dX5_init_40 : decode cX5_init 40 = .ok (.aload_n 0, 1) := by decide +kernel
theorem dX5_init_41 : decode cX5_init 41 = .ok (.bipush 25, 2) := by decide +kernel
theorem dX5_init_43 : decode cX5_init 43 = .ok (.newarray .int, 2) := by decide +kernel
theorem dX5_init_45 : decode cX5_init 45 = .ok (.putfield 26, 3) := by decide +kernel
theorem dX5_init_48 : decode cX5_init 48 = .ok (.aload_n 0, 1) := by decide +kernel
theorem dX5_init_49 : decode cX5_init 49 = .ok (.bipush 60, 2) := by decide +kernel
theorem dX5_init_51 : decode cX5_init 51 = .ok (.newarray .int, 2) := by decide +kernel
theorem dX5_init_53 : decode cX5_init 53 = .ok (.putfield 29, 3) := by decide +kernel
theorem dX5_init_56 : decode cX5_init 56 = .ok (.aload_n 0, 1) := by decide +kernel
theorem dX5_init_57 : decode cX5_init 57 = .ok (.bipush 60, 2) := by decide +kernel
theorem dX5_init_59 : decode cX5_init 59 = .ok (.newarray .int, 2) := by decide +kernel
theorem dX5_init_61 : decode cX5_init 61 = .ok (.putfield 32, 3) := by decide +kernel
theorem dX5_init_64 : decode cX5_init 64 = .ok (.aload_n 0, 1) := by decide +kernel
theorem dX5_init_65 : decode cX5_init 65 = .ok (.bipush 60, 2) := by decide +kernel
theorem dX5_init_67 : decode cX5_init 67 = .ok (.newarray .int, 2) := by decide +kernel
theorem dX5_init_69 : decode cX5_init 69 = .ok (.putfield 35, 3) := by decide +kernel
theorem dX5_init_72 : decode cX5_init 72 = .ok (.aload_n 0, 1) := by decide +kernel
theorem dX5_init_73 : decode cX5_init 73 = .ok (.bipush 60, 2) := by decide +kernel
theorem dX5_init_75 : decode cX5_init 75 = .ok (.newarray .int, 2) := by decide +kernel
theorem dX5_init_77 : decode cX5_init 77 = .ok (.putfield 38, 3) := by decide +kernel
theorem dX5_init_80 : decode cX5_init 80 = .ok (.aload_n 0, 1) := by decide +kernel
theorem dX5_init_81 : decode cX5_init 81 = .ok (.bipush 60, 2) := by decide +kernel
theorem dX5_init_83 : decode cX5_init 83 = .ok (.newarray .boolean, 2) := by decide +kernel
theorem dX5_init_85 : decode cX5_init 85 = .ok (.putfield 41, 3) := by decide +kernel
theorem dX5_init_88 : decode cX5_init 88 = .ok (.aload_n 0, 1) := by decide +kernel
theorem dX5_init_89 : decode cX5_init 89 = .ok (.bipush 100, 2) := by decide +kernel
theorem dX5_init_91 : decode cX5_init 91 = .ok (.putfield 44, 3) := by decide +kernel
theorem dX5_init_94 : decode cX5_init 94 = .ok (.aload_n 0, 1) := by decide +kernel
theorem dX5_init_95 : decode cX5_init 95 = .ok (.iconst 5, 1) := by decide +kernel
theorem dX5_init_96 : decode cX5_init 96 = .ok (.newarray .int, 2) := by decide +kernel
theorem dX5_init_98 : decode cX5_init 98 = .ok (.putfield 48, 3) := by decide +kernel
theorem dX5_init_101 : decode cX5_init 101 = .ok (.aload_n 0, 1) := by decide +kernel
theorem dX5_init_102 : decode cX5_init 102 = .ok (.bipush 40, 2) := by decide +kernel
theorem dX5_init_104 : decode cX5_init 104 = .ok (.newarray .int, 2) := by decide +kernel
theorem dX5_init_106 : decode cX5_init 106 = .ok (.putfield 51, 3) := by decide +kernel
theorem dX5_init_109 : decode cX5_init 109 = .ok (.aload_n 0, 1) := by decide +kernel
theorem dX5_init_110 : decode cX5_init 110 = .ok (.bipush 40, 2) := by decide +kernel
theorem dX5_init_112 : decode cX5_init 112 = .ok (.newarray .int, 2) := by decide +kernel
theorem dX5_init_114 : decode cX5_init 114 = .ok (.putfield 54, 3) := by decide +kernel
theorem dX5_init_117 : decode cX5_init 117 = .ok (.aload_n 0, 1) := by decide +kernel
theorem dX5_init_118 : decode cX5_init 118 = .ok (.bipush 40, 2) := by decide +kernel
theorem dX5_init_120 : decode cX5_init 120 = .ok (.newarray .int, 2) := by decide +kernel
theorem dX5_init_122 : decode cX5_init 122 = .ok (.putfield 57, 3) := by decide +kernel
theorem dX5_init_125 : decode cX5_init 125 = .ok (.aload_n 0, 1) := by decide +kernel
theorem dX5_init_126 : decode cX5_init 126 = .ok (.bipush 40, 2) := by decide +kernel
theorem dX5_init_128 : decode cX5_init 128 = .ok (.newarray .int, 2) := by decide +kernel
theorem dX5_init_130 : decode cX5_init 130 = .ok (.putfield 60, 3) := by decide +kernel
theorem dX5_init_133 : decode cX5_init 133 = .ok (.aload_n 0, 1) := by decide +kernel
theorem dX5_init_134 : decode cX5_init 134 = .ok (.bipush 40, 2) := by decide +kernel
theorem dX5_init_136 : decode cX5_init 136 = .ok (.newarray .int, 2) := by decide +kernel
theorem dX5_init_138 : decode cX5_init 138 = .ok (.putfield 63, 3) := by decide +kernel
theorem dX5_init_141 : decode cX5_init 141 = .ok (.aload_n 0, 1) := by decide +kernel
theorem dX5_init_142 : decode cX5_init 142 = .ok (.bipush 40, 2) := by decide +kernel
theorem dX5_init_144 : decode cX5_init 144 = .ok (.newarray .boolean, 2) := by decide +kernel
theorem dX5_init_146 : decode cX5_init 146 = .ok (.putfield 66, 3) := by decide +kernel
theorem dX5_init_149 : decode cX5_init 149 = .ok (.aload_n 0, 1) := by decide +kernel
theorem dX5_init_150 : decode cX5_init 150 = .ok (.bipush 100, 2) := by decide +kernel
theorem dX5_init_152 : decode cX5_init 152 = .ok (.putfield 69, 3) := by decide +kernel
theorem dX5_init_155 : decode cX5_init 155 = .ok (.aload_n 0, 1) := by decide +kernel
theorem dX5_init_156 : decode cX5_init 156 = .ok (.sipush 200, 3) := by decide +kernel
theorem dX5_init_159 : decode cX5_init 159 = .ok (.putfield 72, 3) := by decide +kernel
theorem dX5_init_162 : decode cX5_init 162 = .ok (.iconst 0, 1) := by decide +kernel
theorem dX5_init_163 : decode cX5_init 163 = .ok (.istore_n 1, 1) := by decide +kernel
theorem dX5_init_164 : decode cX5_init 164 = .ok (.iload_n 1, 1) := by decide +kernel
theorem dX5_init_165 : decode cX5_init 165 = .ok (.bipush 25, 2) := by decide +kernel
theorem dX5_init_167 : decode cX5_init 167 = .ok (.if_icmp .ge 17, 3) := by decide +kernel
theorem dX5_init_170 : decode cX5_init 170 = .ok (.aload_n 0, 1) := by decide +kernel
theorem dX5_init_171 : decode cX5_init 171 = .ok (.getfield 26, 3) := by decide +kernel
theorem dX5_init_174 : decode cX5_init 174 = .ok (.iload_n 1, 1) := by decide +kernel
theorem dX5_init_175 : decode cX5_init 175 = .ok (.ldc 75, 2) := by decide +kernel
theorem dX5_init_177 : decode cX5_init 177 = .ok (.iastore, 1) := by decide +kernel
theorem dX5_init_178 : decode cX5_init 178 = .ok (.iinc 1 1, 3) := by decide +kernel
theorem dX5_init_181 : decode cX5_init 181 = .ok (.goto (-17), 3) := by decide +kernel
theorem dX5_init_184 : decode cX5_init 184 = .ok (.return_, 1) := by decide +kernel
theorem dX5_thrown_0 : decode cX5_thrown 0 = .ok (.aload_n 0, 1) := by decide +kernel
theorem dX5_thrown_1 : decode cX5_thrown 1 = .ok (.getfield 76, 3) := by decide +kernel
theorem dX5_thrown_4 : decode cX5_thrown 4 = .ok (.ireturn, 1) := by decide +kernel
theorem dX5_fails_0 : decode cX5_fails 0 = .ok (.aload_n 0, 1) := by decide +kernel
theorem dX5_fails_1 : decode cX5_fails 1 = .ok (.iload_n 1, 1) := by decide +kernel
theorem dX5_fails_2 : decode cX5_fails 2 = .ok (.putfield 76, 3) := by decide +kernel
theorem dX5_fails_5 : decode cX5_fails 5 = .ok (.iconst 0, 1) := by decide +kernel
theorem dX5_fails_6 : decode cX5_fails 6 = .ok (.ireturn, 1) := by decide +kernel
theorem dX5_asks_0 : decode cX5_asks 0 = .ok (.aload_n 0, 1) := by decide +kernel
theorem dX5_asks_1 : decode cX5_asks 1 = .ok (.iload_n 1, 1) := by decide +kernel
theorem dX5_asks_2 : decode cX5_asks 2 = .ok (.ifCond .eq 7, 3) := by decide +kernel
theorem dX5_asks_5 : decode cX5_asks 5 = .ok (.iconst 0, 1) := by decide +kernel
theorem dX5_asks_6 : decode cX5_asks 6 = .ok (.goto 4, 3) := by decide +kernel
theorem dX5_asks_9 : decode cX5_asks 9 = .ok (.iconst 1, 1) := by decide +kernel
theorem dX5_asks_10 : decode cX5_asks 10 = .ok (.putfield 76, 3) := by decide +kernel
theorem dX5_asks_13 : decode cX5_asks 13 = .ok (.iload_n 1, 1) := by decide +kernel
theorem dX5_asks_14 : decode cX5_asks 14 = .ok (.ireturn, 1) := by decide +kernel
theorem dX5_in_0 : decode cX5_in 0 = .ok (.iload_n 0, 1) := by decide +kernel
theorem dX5_in_1 : decode cX5_in 1 = .ok (.iload_n 1, 1) := by decide +kernel
theorem dX5_in_2 : decode cX5_in 2 = .ok (.if_icmp .lt 12, 3) := by decide +kernel
theorem dX5_in_5 : decode cX5_in 5 = .ok (.iload_n 0, 1) := by decide +kernel
theorem dX5_in_6 : decode cX5_in 6 = .ok (.iload_n 2, 1) := by decide +kernel
theorem dX5_in_7 : decode cX5_in 7 = .ok (.if_icmp .gt 7, 3) := by decide +kernel
theorem dX5_in_10 : decode cX5_in 10 = .ok (.iconst 1, 1) := by decide +kernel
theorem dX5_in_11 : decode cX5_in 11 = .ok (.goto 4, 3) := by decide +kernel
theorem dX5_in_14 : decode cX5_in 14 = .ok (.iconst 0, 1) := by decide +kernel
theorem dX5_in_15 : decode cX5_in 15 = .ok (.ireturn, 1) := by decide +kernel
theorem dX5_isBank_0 : decode cX5_isBank 0 = .ok (.iload_n 0, 1) := by decide +kernel
theorem dX5_isBank_1 : decode cX5_isBank 1 = .ok (.ifCond .lt 12, 3) := by decide +kernel
theorem dX5_isBank_4 : decode cX5_isBank 4 = .ok (.iload_n 0, 1) := by decide +kernel
theorem dX5_isBank_5 : decode cX5_isBank 5 = .ok (.iconst 5, 1) := by decide +kernel
theorem dX5_isBank_6 : decode cX5_isBank 6 = .ok (.if_icmp .ge 7, 3) := by decide +kernel
theorem dX5_isBank_9 : decode cX5_isBank 9 = .ok (.iconst 1, 1) := by decide +kernel
theorem dX5_isBank_10 : decode cX5_isBank 10 = .ok (.goto 4, 3) := by decide +kernel
theorem dX5_isBank_13 : decode cX5_isBank 13 = .ok (.iconst 0, 1) := by decide +kernel
theorem dX5_isBank_14 : decode cX5_isBank 14 = .ok (.ireturn, 1) := by decide +kernel
theorem dX5_isPayment_0 : decode cX5_isPayment 0 = .ok (.iload_n 1, 1) := by decide +kernel
theorem dX5_isPayment_1 : decode cX5_isPayment 1 = .ok (.ifCond .lt 15, 3) := by decide +kernel
theorem dX5_isPayment_4 : decode cX5_isPayment 4 = .ok (.iload_n 1, 1) := by decide +kernel
theorem dX5_isPayment_5 : decode cX5_isPayment 5 = .ok (.aload_n 0, 1) := by decide +kernel
theorem dX5_isPayment_6 : decode cX5_isPayment 6 = .ok (.getfield 79, 3) := by decide +kernel
theorem dX5_isPayment_9 : decode cX5_isPayment 9 = .ok (.if_icmp .ge 7, 3) := by decide +kernel
theorem dX5_isPayment_12 : decode cX5_isPayment 12 = .ok (.iconst 1, 1) := by decide +kernel
theorem dX5_isPayment_13 : decode cX5_isPayment 13 = .ok (.goto 4, 3) := by decide +kernel
theorem dX5_isPayment_16 : decode cX5_isPayment 16 = .ok (.iconst 0, 1) := by decide +kernel
theorem dX5_isPayment_17 : decode cX5_isPayment 17 = .ok (.ireturn, 1) := by decide +kernel
set_option maxRecDepth 20000 in
theorem ggX5_fund_X5_isBank : GoodIn wsX5_fund wsX5_isBank := goodIn_r _ [8] (by decide +kernel) (by decide +kernel)
set_option maxRecDepth 20000 in
theorem gX5_fund_X5_isBank : GoodIn wsX5_fund (va_wsS RX5 82 yX5_isBank wsX5_isBank) := goodIn_app (goodIn_of _ (by decide +kernel)) ggX5_fund_X5_isBank
set_option maxRecDepth 20000 in
theorem ggX5_fund_X5_asks : GoodIn wsX5_fund wsX5_asks := goodIn_r _ [12, 13, 21, 22, 23, 24, 25, 26, 27, 28, 29, 30, 31, 32, 33, 34, 35, 36, 37, 38, 39, 40, 41, 42, 43, 44, 45] (by decide +kernel) (by decide +kernel)
set_option maxRecDepth 20000 in
theorem gX5_fund_X5_asks : GoodIn wsX5_fund (wsV RX5 86 RX5 yX5_asks wsX5_asks) := goodIn_app (goodIn_of _ (by decide +kernel)) ggX5_fund_X5_asks
set_option maxRecDepth 20000 in
theorem ggX5_fund_X5_in : GoodIn wsX5_fund wsX5_in := goodIn_r _ [16] (by decide +kernel) (by decide +kernel)
set_option maxRecDepth 20000 in
theorem gX5_fund_X5_in : GoodIn wsX5_fund (va_wsS RX5 90 yX5_in wsX5_in) := goodIn_app (goodIn_of _ (by decide +kernel)) ggX5_fund_X5_in
set_option maxRecDepth 20000 in
theorem ggX5_fund_X5_fails : GoodIn wsX5_fund wsX5_fails := goodIn_r _ [20, 13, 21, 22, 23, 24, 25, 26, 27, 28, 29, 30, 31, 32, 33, 34, 35, 36, 37, 38, 39, 40, 41, 42, 43, 44, 45] (by decide +kernel) (by decide +kernel)
set_option maxRecDepth 20000 in
theorem gX5_fund_X5_fails : GoodIn wsX5_fund (wsV RX5 94 RX5 yX5_fails wsX5_fails) := goodIn_app (goodIn_of _ (by decide +kernel)) ggX5_fund_X5_fails
theorem dX5_fund_0 : decode cX5_fund 0 = .ok (.aload_n 0, 1) := by decide +kernel
theorem dX5_fund_1 : decode cX5_fund 1 = .ok (.iload_n 1, 1) := by decide +kernel
theorem dX5_fund_2 : decode cX5_fund 2 = .ok (.invokestatic 82, 3) := by decide +kernel
theorem dX5_fund_5 : decode cX5_fund 5 = .ok (.invokevirtual 86, 3) := by decide +kernel
theorem dX5_fund_8 : decode cX5_fund 8 = .ok (.ifCond .ne 5, 3) := by decide +kernel
theorem dX5_fund_11 : decode cX5_fund 11 = .ok (.iconst 0, 1) := by decide +kernel
theorem dX5_fund_12 : decode cX5_fund 12 = .ok (.ireturn, 1) := by decide +kernel
theorem dX5_fund_13 : decode cX5_fund 13 = .ok (.iload_n 2, 1) := by decide +kernel
theorem dX5_fund_14 : decode cX5_fund 14 = .ok (.iconst 1, 1) := by decide +kernel
theorem dX5_fund_15 : decode cX5_fund 15 = .ok (.ldc 75, 2) := by decide +kernel
theorem dX5_fund_17 : decode cX5_fund 17 = .ok (.invokestatic 90, 3) := by decide +kernel
theorem dX5_fund_20 : decode cX5_fund 20 = .ok (.ifCond .ne 9, 3) := by decide +kernel
theorem dX5_fund_23 : decode cX5_fund 23 = .ok (.aload_n 0, 1) := by decide +kernel
theorem dX5_fund_24 : decode cX5_fund 24 = .ok (.iconst 2, 1) := by decide +kernel
theorem dX5_fund_25 : decode cX5_fund 25 = .ok (.invokevirtual 94, 3) := by decide +kernel
theorem dX5_fund_28 : decode cX5_fund 28 = .ok (.ireturn, 1) := by decide +kernel
theorem dX5_fund_29 : decode cX5_fund 29 = .ok (.aload_n 0, 1) := by decide +kernel
theorem dX5_fund_30 : decode cX5_fund 30 = .ok (.getfield 19, 3) := by decide +kernel
theorem dX5_fund_33 : decode cX5_fund 33 = .ok (.iload_n 1, 1) := by decide +kernel
theorem dX5_fund_34 : decode cX5_fund 34 = .ok (.baload, 1) := by decide +kernel
theorem dX5_fund_35 : decode cX5_fund 35 = .ok (.ifCond .ne 16, 3) := by decide +kernel
theorem dX5_fund_38 : decode cX5_fund 38 = .ok (.aload_n 0, 1) := by decide +kernel
theorem dX5_fund_39 : decode cX5_fund 39 = .ok (.getfield 7, 3) := by decide +kernel
theorem dX5_fund_42 : decode cX5_fund 42 = .ok (.iload_n 1, 1) := by decide +kernel
theorem dX5_fund_43 : decode cX5_fund 43 = .ok (.iaload, 1) := by decide +kernel
theorem dX5_fund_44 : decode cX5_fund 44 = .ok (.iload_n 2, 1) := by decide +kernel
theorem dX5_fund_45 : decode cX5_fund 45 = .ok (.iadd, 1) := by decide +kernel
theorem dX5_fund_46 : decode cX5_fund 46 = .ok (.ldc 98, 2) := by decide +kernel
theorem dX5_fund_48 : decode cX5_fund 48 = .ok (.if_icmp .le 9, 3) := by decide +kernel
theorem dX5_fund_51 : decode cX5_fund 51 = .ok (.aload_n 0, 1) := by decide +kernel
theorem dX5_fund_52 : decode cX5_fund 52 = .ok (.iconst 3, 1) := by decide +kernel
theorem dX5_fund_53 : decode cX5_fund 53 = .ok (.invokevirtual 94, 3) := by decide +kernel
theorem dX5_fund_56 : decode cX5_fund 56 = .ok (.ireturn, 1) := by decide +kernel
theorem dX5_fund_57 : decode cX5_fund 57 = .ok (.aload_n 0, 1) := by decide +kernel
theorem dX5_fund_58 : decode cX5_fund 58 = .ok (.getfield 7, 3) := by decide +kernel
theorem dX5_fund_61 : decode cX5_fund 61 = .ok (.iload_n 1, 1) := by decide +kernel
theorem dX5_fund_62 : decode cX5_fund 62 = .ok (.dup2, 1) := by decide +kernel
theorem dX5_fund_63 : decode cX5_fund 63 = .ok (.iaload, 1) := by decide +kernel
theorem dX5_fund_64 : decode cX5_fund 64 = .ok (.iload_n 2, 1) := by decide +kernel
theorem dX5_fund_65 : decode cX5_fund 65 = .ok (.iadd, 1) := by decide +kernel
theorem dX5_fund_66 : decode cX5_fund 66 = .ok (.iastore, 1) := by decide +kernel
theorem dX5_fund_67 : decode cX5_fund 67 = .ok (.aload_n 0, 1) := by decide +kernel
theorem dX5_fund_68 : decode cX5_fund 68 = .ok (.getfield 7, 3) := by decide +kernel
theorem dX5_fund_71 : decode cX5_fund 71 = .ok (.iload_n 1, 1) := by decide +kernel
theorem dX5_fund_72 : decode cX5_fund 72 = .ok (.iaload, 1) := by decide +kernel
theorem dX5_fund_73 : decode cX5_fund 73 = .ok (.ireturn, 1) := by decide +kernel
set_option maxRecDepth 20000 in
theorem ggX5_setFloor_X5_isBank : GoodIn wsX5_setFloor wsX5_isBank := goodIn_r _ [7] (by decide +kernel) (by decide +kernel)
set_option maxRecDepth 20000 in
theorem gX5_setFloor_X5_isBank : GoodIn wsX5_setFloor (va_wsS RX5 82 yX5_isBank wsX5_isBank) := goodIn_app (goodIn_of _ (by decide +kernel)) ggX5_setFloor_X5_isBank
set_option maxRecDepth 20000 in
theorem ggX5_setFloor_X5_asks : GoodIn wsX5_setFloor wsX5_asks := goodIn_r _ [11, 12, 20, 21, 22, 23, 24, 25, 26, 27, 28, 29, 30, 31, 32, 33, 34, 35, 36, 37, 38, 39, 40, 41, 42, 43, 44] (by decide +kernel) (by decide +kernel)
set_option maxRecDepth 20000 in
theorem gX5_setFloor_X5_asks : GoodIn wsX5_setFloor (wsV RX5 86 RX5 yX5_asks wsX5_asks) := goodIn_app (goodIn_of _ (by decide +kernel)) ggX5_setFloor_X5_asks
set_option maxRecDepth 20000 in
theorem ggX5_setFloor_X5_in : GoodIn wsX5_setFloor wsX5_in := goodIn_r _ [15] (by decide +kernel) (by decide +kernel)
set_option maxRecDepth 20000 in
theorem gX5_setFloor_X5_in : GoodIn wsX5_setFloor (va_wsS RX5 90 yX5_in wsX5_in) := goodIn_app (goodIn_of _ (by decide +kernel)) ggX5_setFloor_X5_in
set_option maxRecDepth 20000 in
theorem ggX5_setFloor_X5_fails : GoodIn wsX5_setFloor wsX5_fails := goodIn_r _ [19, 12, 20, 21, 22, 23, 24, 25, 26, 27, 28, 29, 30, 31, 32, 33, 34, 35, 36, 37, 38, 39, 40, 41, 42, 43, 44] (by decide +kernel) (by decide +kernel)
set_option maxRecDepth 20000 in
theorem gX5_setFloor_X5_fails : GoodIn wsX5_setFloor (wsV RX5 94 RX5 yX5_fails wsX5_fails) := goodIn_app (goodIn_of _ (by decide +kernel)) ggX5_setFloor_X5_fails
theorem dX5_setFloor_0 : decode cX5_setFloor 0 = .ok (.aload_n 0, 1) := by decide +kernel
theorem dX5_setFloor_1 : decode cX5_setFloor 1 = .ok (.iload_n 1, 1) := by decide +kernel
theorem dX5_setFloor_2 : decode cX5_setFloor 2 = .ok (.invokestatic 82, 3) := by decide +kernel
theorem dX5_setFloor_5 : decode cX5_setFloor 5 = .ok (.invokevirtual 86, 3) := by decide +kernel
theorem dX5_setFloor_8 : decode cX5_setFloor 8 = .ok (.ifCond .ne 5, 3) := by decide +kernel
theorem dX5_setFloor_11 : decode cX5_setFloor 11 = .ok (.iconst 0, 1) := by decide +kernel
theorem dX5_setFloor_12 : decode cX5_setFloor 12 = .ok (.ireturn, 1) := by decide +kernel
theorem dX5_setFloor_13 : decode cX5_setFloor 13 = .ok (.iload_n 2, 1) := by decide +kernel
theorem dX5_setFloor_14 : decode cX5_setFloor 14 = .ok (.ldc 99, 2) := by decide +kernel
theorem dX5_setFloor_16 : decode cX5_setFloor 16 = .ok (.iconst 0, 1) := by decide +kernel
theorem dX5_setFloor_17 : decode cX5_setFloor 17 = .ok (.invokestatic 90, 3) := by decide +kernel
theorem dX5_setFloor_20 : decode cX5_setFloor 20 = .ok (.ifCond .eq 13, 3) := by decide +kernel
theorem dX5_setFloor_23 : decode cX5_setFloor 23 = .ok (.iload_n 2, 1) := by decide +kernel
theorem dX5_setFloor_24 : decode cX5_setFloor 24 = .ok (.aload_n 0, 1) := by decide +kernel
theorem dX5_setFloor_25 : decode cX5_setFloor 25 = .ok (.getfield 7, 3) := by decide +kernel
theorem dX5_setFloor_28 : decode cX5_setFloor 28 = .ok (.iload_n 1, 1) := by decide +kernel
theorem dX5_setFloor_29 : decode cX5_setFloor 29 = .ok (.iaload, 1) := by decide +kernel
theorem dX5_setFloor_30 : decode cX5_setFloor 30 = .ok (.if_icmp .le 9, 3) := by decide +kernel
theorem dX5_setFloor_33 : decode cX5_setFloor 33 = .ok (.aload_n 0, 1) := by decide +kernel
theorem dX5_setFloor_34 : decode cX5_setFloor 34 = .ok (.iconst 2, 1) := by decide +kernel
theorem dX5_setFloor_35 : decode cX5_setFloor 35 = .ok (.invokevirtual 94, 3) := by decide +kernel
theorem dX5_setFloor_38 : decode cX5_setFloor 38 = .ok (.ireturn, 1) := by decide +kernel
theorem dX5_setFloor_39 : decode cX5_setFloor 39 = .ok (.aload_n 0, 1) := by decide +kernel
theorem dX5_setFloor_40 : decode cX5_setFloor 40 = .ok (.getfield 13, 3) := by decide +kernel
theorem dX5_setFloor_43 : decode cX5_setFloor 43 = .ok (.iload_n 1, 1) := by decide +kernel
theorem dX5_setFloor_44 : decode cX5_setFloor 44 = .ok (.iaload, 1) := by decide +kernel
theorem dX5_setFloor_45 : decode cX5_setFloor 45 = .ok (.istore_n 3, 1) := by decide +kernel
theorem dX5_setFloor_46 : decode cX5_setFloor 46 = .ok (.aload_n 0, 1) := by decide +kernel
theorem dX5_setFloor_47 : decode cX5_setFloor 47 = .ok (.getfield 13, 3) := by decide +kernel
theorem dX5_setFloor_50 : decode cX5_setFloor 50 = .ok (.iload_n 1, 1) := by decide +kernel
theorem dX5_setFloor_51 : decode cX5_setFloor 51 = .ok (.iload_n 2, 1) := by decide +kernel
theorem dX5_setFloor_52 : decode cX5_setFloor 52 = .ok (.iastore, 1) := by decide +kernel
theorem dX5_setFloor_53 : decode cX5_setFloor 53 = .ok (.iload_n 3, 1) := by decide +kernel
theorem dX5_setFloor_54 : decode cX5_setFloor 54 = .ok (.ireturn, 1) := by decide +kernel
set_option maxRecDepth 20000 in
theorem ggX5_setBound_X5_isBank : GoodIn wsX5_setBound wsX5_isBank := goodIn_r _ [7] (by decide +kernel) (by decide +kernel)
set_option maxRecDepth 20000 in
theorem gX5_setBound_X5_isBank : GoodIn wsX5_setBound (va_wsS RX5 82 yX5_isBank wsX5_isBank) := goodIn_app (goodIn_of _ (by decide +kernel)) ggX5_setBound_X5_isBank
set_option maxRecDepth 20000 in
theorem ggX5_setBound_X5_asks : GoodIn wsX5_setBound wsX5_asks := goodIn_r _ [11, 12, 20, 21, 22, 23, 24, 25, 26, 27, 28, 29, 30, 31, 32, 33, 34, 35, 36, 37, 38, 39, 40, 41, 42, 43, 44] (by decide +kernel) (by decide +kernel)
set_option maxRecDepth 20000 in
theorem gX5_setBound_X5_asks : GoodIn wsX5_setBound (wsV RX5 86 RX5 yX5_asks wsX5_asks) := goodIn_app (goodIn_of _ (by decide +kernel)) ggX5_setBound_X5_asks
set_option maxRecDepth 20000 in
theorem ggX5_setBound_X5_in : GoodIn wsX5_setBound wsX5_in := goodIn_r _ [15] (by decide +kernel) (by decide +kernel)
set_option maxRecDepth 20000 in
theorem gX5_setBound_X5_in : GoodIn wsX5_setBound (va_wsS RX5 90 yX5_in wsX5_in) := goodIn_app (goodIn_of _ (by decide +kernel)) ggX5_setBound_X5_in
set_option maxRecDepth 20000 in
theorem ggX5_setBound_X5_fails : GoodIn wsX5_setBound wsX5_fails := goodIn_r _ [19, 12, 20, 21, 22, 23, 24, 25, 26, 27, 28, 29, 30, 31, 32, 33, 34, 35, 36, 37, 38, 39, 40, 41, 42, 43, 44] (by decide +kernel) (by decide +kernel)
set_option maxRecDepth 20000 in
theorem gX5_setBound_X5_fails : GoodIn wsX5_setBound (wsV RX5 94 RX5 yX5_fails wsX5_fails) := goodIn_app (goodIn_of _ (by decide +kernel)) ggX5_setBound_X5_fails
theorem dX5_setBound_0 : decode cX5_setBound 0 = .ok (.aload_n 0, 1) := by decide +kernel
theorem dX5_setBound_1 : decode cX5_setBound 1 = .ok (.iload_n 1, 1) := by decide +kernel
theorem dX5_setBound_2 : decode cX5_setBound 2 = .ok (.invokestatic 82, 3) := by decide +kernel
theorem dX5_setBound_5 : decode cX5_setBound 5 = .ok (.ifCond .eq 14, 3) := by decide +kernel
theorem dX5_setBound_8 : decode cX5_setBound 8 = .ok (.iload_n 2, 1) := by decide +kernel
theorem dX5_setBound_9 : decode cX5_setBound 9 = .ok (.invokestatic 82, 3) := by decide +kernel
theorem dX5_setBound_12 : decode cX5_setBound 12 = .ok (.ifCond .eq 7, 3) := by decide +kernel
theorem dX5_setBound_15 : decode cX5_setBound 15 = .ok (.iconst 1, 1) := by decide +kernel
theorem dX5_setBound_16 : decode cX5_setBound 16 = .ok (.goto 4, 3) := by decide +kernel
theorem dX5_setBound_19 : decode cX5_setBound 19 = .ok (.iconst 0, 1) := by decide +kernel
theorem dX5_setBound_20 : decode cX5_setBound 20 = .ok (.invokevirtual 86, 3) := by decide +kernel
theorem dX5_setBound_23 : decode cX5_setBound 23 = .ok (.ifCond .ne 5, 3) := by decide +kernel
theorem dX5_setBound_26 : decode cX5_setBound 26 = .ok (.iconst 0, 1) := by decide +kernel
theorem dX5_setBound_27 : decode cX5_setBound 27 = .ok (.ireturn, 1) := by decide +kernel
theorem dX5_setBound_28 : decode cX5_setBound 28 = .ok (.iconst 5, 1) := by decide +kernel
theorem dX5_setBound_29 : decode cX5_setBound 29 = .ok (.iload_n 1, 1) := by decide +kernel
theorem dX5_setBound_30 : decode cX5_setBound 30 = .ok (.imul, 1) := by decide +kernel
theorem dX5_setBound_31 : decode cX5_setBound 31 = .ok (.iload_n 2, 1) := by decide +kernel
theorem dX5_setBound_32 : decode cX5_setBound 32 = .ok (.iadd, 1) := by decide +kernel
theorem dX5_setBound_33 : decode cX5_setBound 33 = .ok (.istore 4, 2) := by decide +kernel
theorem dX5_setBound_35 : decode cX5_setBound 35 = .ok (.iload_n 1, 1) := by decide +kernel
theorem dX5_setBound_36 : decode cX5_setBound 36 = .ok (.iload_n 2, 1) := by decide +kernel
theorem dX5_setBound_37 : decode cX5_setBound 37 = .ok (.if_icmp .eq 24, 3) := by decide +kernel
theorem dX5_setBound_40 : decode cX5_setBound 40 = .ok (.iload_n 3, 1) := by decide +kernel
theorem dX5_setBound_41 : decode cX5_setBound 41 = .ok (.iconst 0, 1) := by decide +kernel
theorem dX5_setBound_42 : decode cX5_setBound 42 = .ok (.ldc 75, 2) := by decide +kernel
theorem dX5_setBound_44 : decode cX5_setBound 44 = .ok (.invokestatic 90, 3) := by decide +kernel
theorem dX5_setBound_47 : decode cX5_setBound 47 = .ok (.ifCond .eq 14, 3) := by decide +kernel
theorem dX5_setBound_50 : decode cX5_setBound 50 = .ok (.iload_n 3, 1) := by decide +kernel
theorem dX5_setBound_51 : decode cX5_setBound 51 = .ok (.aload_n 0, 1) := by decide +kernel
theorem dX5_setBound_52 : decode cX5_setBound 52 = .ok (.getfield 23, 3) := by decide +kernel
theorem dX5_setBound_55 : decode cX5_setBound 55 = .ok (.iload 4, 2) := by decide +kernel
theorem dX5_setBound_57 : decode cX5_setBound 57 = .ok (.iaload, 1) := by decide +kernel
theorem dX5_setBound_58 : decode cX5_setBound 58 = .ok (.if_icmp .ge 9, 3) := by decide +kernel
theorem dX5_setBound_61 : decode cX5_setBound 61 = .ok (.aload_n 0, 1) := by decide +kernel
theorem dX5_setBound_62 : decode cX5_setBound 62 = .ok (.iconst 2, 1) := by decide +kernel
theorem dX5_setBound_63 : decode cX5_setBound 63 = .ok (.invokevirtual 94, 3) := by decide +kernel
theorem dX5_setBound_66 : decode cX5_setBound 66 = .ok (.ireturn, 1) := by decide +kernel
theorem dX5_setBound_67 : decode cX5_setBound 67 = .ok (.aload_n 0, 1) := by decide +kernel
theorem dX5_setBound_68 : decode cX5_setBound 68 = .ok (.getfield 26, 3) := by decide +kernel
theorem dX5_setBound_71 : decode cX5_setBound 71 = .ok (.iload 4, 2) := by decide +kernel
theorem dX5_setBound_73 : decode cX5_setBound 73 = .ok (.iaload, 1) := by decide +kernel
theorem dX5_setBound_74 : decode cX5_setBound 74 = .ok (.istore 5, 2) := by decide +kernel
theorem dX5_setBound_76 : decode cX5_setBound 76 = .ok (.aload_n 0, 1) := by decide +kernel
theorem dX5_setBound_77 : decode cX5_setBound 77 = .ok (.getfield 26, 3) := by decide +kernel
theorem dX5_setBound_80 : decode cX5_setBound 80 = .ok (.iload 4, 2) := by decide +kernel
theorem dX5_setBound_82 : decode cX5_setBound 82 = .ok (.iload_n 3, 1) := by decide +kernel
theorem dX5_setBound_83 : decode cX5_setBound 83 = .ok (.iastore, 1) := by decide +kernel
theorem dX5_setBound_84 : decode cX5_setBound 84 = .ok (.iload 5, 2) := by decide +kernel
theorem dX5_setBound_86 : decode cX5_setBound 86 = .ok (.ireturn, 1) := by decide +kernel
set_option maxRecDepth 20000 in
theorem ggX5_givePapers_X5_isBank : GoodIn wsX5_givePapers wsX5_isBank := goodIn_r _ [7] (by decide +kernel) (by decide +kernel)
set_option maxRecDepth 20000 in
theorem gX5_givePapers_X5_isBank : GoodIn wsX5_givePapers (va_wsS RX5 82 yX5_isBank wsX5_isBank) := goodIn_app (goodIn_of _ (by decide +kernel)) ggX5_givePapers_X5_isBank
set_option maxRecDepth 20000 in
theorem ggX5_givePapers_X5_asks : GoodIn wsX5_givePapers wsX5_asks := goodIn_r _ [11, 12, 20, 21, 22, 23, 24, 25, 26, 27, 28, 29, 30, 31, 32, 33, 34, 35, 36, 37, 38, 39, 40, 41, 42, 43, 44] (by decide +kernel) (by decide +kernel)
set_option maxRecDepth 20000 in
theorem gX5_givePapers_X5_asks : GoodIn wsX5_givePapers (wsV RX5 86 RX5 yX5_asks wsX5_asks) := goodIn_app (goodIn_of _ (by decide +kernel)) ggX5_givePapers_X5_asks
set_option maxRecDepth 20000 in
theorem ggX5_givePapers_X5_in : GoodIn wsX5_givePapers wsX5_in := goodIn_r _ [15] (by decide +kernel) (by decide +kernel)
set_option maxRecDepth 20000 in
theorem gX5_givePapers_X5_in : GoodIn wsX5_givePapers (va_wsS RX5 90 yX5_in wsX5_in) := goodIn_app (goodIn_of _ (by decide +kernel)) ggX5_givePapers_X5_in
set_option maxRecDepth 20000 in
theorem ggX5_givePapers_X5_fails : GoodIn wsX5_givePapers wsX5_fails := goodIn_r _ [19, 12, 20, 21, 22, 23, 24, 25, 26, 27, 28, 29, 30, 31, 32, 33, 34, 35, 36, 37, 38, 39, 40, 41, 42, 43, 44] (by decide +kernel) (by decide +kernel)
set_option maxRecDepth 20000 in
theorem gX5_givePapers_X5_fails : GoodIn wsX5_givePapers (wsV RX5 94 RX5 yX5_fails wsX5_fails) := goodIn_app (goodIn_of _ (by decide +kernel)) ggX5_givePapers_X5_fails
theorem dX5_givePapers_0 : decode cX5_givePapers 0 = .ok (.aload_n 0, 1) := by decide +kernel
theorem dX5_givePapers_1 : decode cX5_givePapers 1 = .ok (.iload_n 1, 1) := by decide +kernel
theorem dX5_givePapers_2 : decode cX5_givePapers 2 = .ok (.invokestatic 82, 3) := by decide +kernel
theorem dX5_givePapers_5 : decode cX5_givePapers 5 = .ok (.invokevirtual 86, 3) := by decide +kernel
theorem dX5_givePapers_8 : decode cX5_givePapers 8 = .ok (.ifCond .ne 5, 3) := by decide +kernel
theorem dX5_givePapers_11 : decode cX5_givePapers 11 = .ok (.iconst 0, 1) := by decide +kernel
theorem dX5_givePapers_12 : decode cX5_givePapers 12 = .ok (.ireturn, 1) := by decide +kernel
theorem dX5_givePapers_13 : decode cX5_givePapers 13 = .ok (.iload_n 2, 1) := by decide +kernel
theorem dX5_givePapers_14 : decode cX5_givePapers 14 = .ok (.iconst 1, 1) := by decide +kernel
theorem dX5_givePapers_15 : decode cX5_givePapers 15 = .ok (.sipush 1000, 3) := by decide +kernel
theorem dX5_givePapers_18 : decode cX5_givePapers 18 = .ok (.invokestatic 90, 3) := by decide +kernel
theorem dX5_givePapers_21 : decode cX5_givePapers 21 = .ok (.ifCond .ne 9, 3) := by decide +kernel
theorem dX5_givePapers_24 : decode cX5_givePapers 24 = .ok (.aload_n 0, 1) := by decide +kernel
theorem dX5_givePapers_25 : decode cX5_givePapers 25 = .ok (.iconst 2, 1) := by decide +kernel
theorem dX5_givePapers_26 : decode cX5_givePapers 26 = .ok (.invokevirtual 94, 3) := by decide +kernel
theorem dX5_givePapers_29 : decode cX5_givePapers 29 = .ok (.ireturn, 1) := by decide +kernel
theorem dX5_givePapers_30 : decode cX5_givePapers 30 = .ok (.aload_n 0, 1) := by decide +kernel
theorem dX5_givePapers_31 : decode cX5_givePapers 31 = .ok (.getfield 19, 3) := by decide +kernel
theorem dX5_givePapers_34 : decode cX5_givePapers 34 = .ok (.iload_n 1, 1) := by decide +kernel
theorem dX5_givePapers_35 : decode cX5_givePapers 35 = .ok (.baload, 1) := by decide +kernel
theorem dX5_givePapers_36 : decode cX5_givePapers 36 = .ok (.ifCond .ne 16, 3) := by decide +kernel
theorem dX5_givePapers_39 : decode cX5_givePapers 39 = .ok (.aload_n 0, 1) := by decide +kernel
theorem dX5_givePapers_40 : decode cX5_givePapers 40 = .ok (.getfield 16, 3) := by decide +kernel
theorem dX5_givePapers_43 : decode cX5_givePapers 43 = .ok (.iload_n 1, 1) := by decide +kernel
theorem dX5_givePapers_44 : decode cX5_givePapers 44 = .ok (.iaload, 1) := by decide +kernel
theorem dX5_givePapers_45 : decode cX5_givePapers 45 = .ok (.iload_n 2, 1) := by decide +kernel
theorem dX5_givePapers_46 : decode cX5_givePapers 46 = .ok (.iadd, 1) := by decide +kernel
theorem dX5_givePapers_47 : decode cX5_givePapers 47 = .ok (.ldc 100, 2) := by decide +kernel
theorem dX5_givePapers_49 : decode cX5_givePapers 49 = .ok (.if_icmp .le 9, 3) := by decide +kernel
theorem dX5_givePapers_52 : decode cX5_givePapers 52 = .ok (.aload_n 0, 1) := by decide +kernel
theorem dX5_givePapers_53 : decode cX5_givePapers 53 = .ok (.iconst 3, 1) := by decide +kernel
theorem dX5_givePapers_54 : decode cX5_givePapers 54 = .ok (.invokevirtual 94, 3) := by decide +kernel
theorem dX5_givePapers_57 : decode cX5_givePapers 57 = .ok (.ireturn, 1) := by decide +kernel
theorem dX5_givePapers_58 : decode cX5_givePapers 58 = .ok (.aload_n 0, 1) := by decide +kernel
theorem dX5_givePapers_59 : decode cX5_givePapers 59 = .ok (.getfield 16, 3) := by decide +kernel
theorem dX5_givePapers_62 : decode cX5_givePapers 62 = .ok (.iload_n 1, 1) := by decide +kernel
theorem dX5_givePapers_63 : decode cX5_givePapers 63 = .ok (.dup2, 1) := by decide +kernel
theorem dX5_givePapers_64 : decode cX5_givePapers 64 = .ok (.iaload, 1) := by decide +kernel
theorem dX5_givePapers_65 : decode cX5_givePapers 65 = .ok (.iload_n 2, 1) := by decide +kernel
theorem dX5_givePapers_66 : decode cX5_givePapers 66 = .ok (.iadd, 1) := by decide +kernel
theorem dX5_givePapers_67 : decode cX5_givePapers 67 = .ok (.iastore, 1) := by decide +kernel
theorem dX5_givePapers_68 : decode cX5_givePapers 68 = .ok (.aload_n 0, 1) := by decide +kernel
theorem dX5_givePapers_69 : decode cX5_givePapers 69 = .ok (.getfield 16, 3) := by decide +kernel
theorem dX5_givePapers_72 : decode cX5_givePapers 72 = .ok (.iload_n 1, 1) := by decide +kernel
theorem dX5_givePapers_73 : decode cX5_givePapers 73 = .ok (.iaload, 1) := by decide +kernel
theorem dX5_givePapers_74 : decode cX5_givePapers 74 = .ok (.ireturn, 1) := by decide +kernel
set_option maxRecDepth 20000 in
theorem ggX5_account_X5_isBank : GoodIn wsX5_account wsX5_isBank := goodIn_r _ [5] (by decide +kernel) (by decide +kernel)
set_option maxRecDepth 20000 in
theorem gX5_account_X5_isBank : GoodIn wsX5_account (va_wsS RX5 82 yX5_isBank wsX5_isBank) := goodIn_app (goodIn_of _ (by decide +kernel)) ggX5_account_X5_isBank
set_option maxRecDepth 20000 in
theorem ggX5_account_X5_asks : GoodIn wsX5_account wsX5_asks := goodIn_r _ [9, 10, 11, 12, 13, 14, 15, 16, 17, 18, 19, 20, 21, 22, 23, 24, 25, 26, 27, 28, 29, 30, 31, 32, 33, 34, 35] (by decide +kernel) (by decide +kernel)
set_option maxRecDepth 20000 in
theorem gX5_account_X5_asks : GoodIn wsX5_account (wsV RX5 86 RX5 yX5_asks wsX5_asks) := goodIn_app (goodIn_of _ (by decide +kernel)) ggX5_account_X5_asks
theorem dX5_account_0 : decode cX5_account 0 = .ok (.aload_n 0, 1) := by decide +kernel
theorem dX5_account_1 : decode cX5_account 1 = .ok (.iload_n 1, 1) := by decide +kernel
theorem dX5_account_2 : decode cX5_account 2 = .ok (.invokestatic 82, 3) := by decide +kernel
theorem dX5_account_5 : decode cX5_account 5 = .ok (.invokevirtual 86, 3) := by decide +kernel
theorem dX5_account_8 : decode cX5_account 8 = .ok (.ifCond .eq 12, 3) := by decide +kernel
theorem dX5_account_11 : decode cX5_account 11 = .ok (.aload_n 0, 1) := by decide +kernel
theorem dX5_account_12 : decode cX5_account 12 = .ok (.getfield 7, 3) := by decide +kernel
theorem dX5_account_15 : decode cX5_account 15 = .ok (.iload_n 1, 1) := by decide +kernel
theorem dX5_account_16 : decode cX5_account 16 = .ok (.iaload, 1) := by decide +kernel
theorem dX5_account_17 : decode cX5_account 17 = .ok (.goto 4, 3) := by decide +kernel
theorem dX5_account_20 : decode cX5_account 20 = .ok (.iconst 0, 1) := by decide +kernel
theorem dX5_account_21 : decode cX5_account 21 = .ok (.ireturn, 1) := by decide +kernel
set_option maxRecDepth 20000 in
theorem ggX5_papers_X5_isBank : GoodIn wsX5_papers wsX5_isBank := goodIn_r _ [5] (by decide +kernel) (by decide +kernel)
set_option maxRecDepth 20000 in
theorem gX5_papers_X5_isBank : GoodIn wsX5_papers (va_wsS RX5 82 yX5_isBank wsX5_isBank) := goodIn_app (goodIn_of _ (by decide +kernel)) ggX5_papers_X5_isBank
set_option maxRecDepth 20000 in
theorem ggX5_papers_X5_asks : GoodIn wsX5_papers wsX5_asks := goodIn_r _ [9, 10, 11, 12, 13, 14, 15, 16, 17, 18, 19, 20, 21, 22, 23, 24, 25, 26, 27, 28, 29, 30, 31, 32, 33, 34, 35] (by decide +kernel) (by decide +kernel)
set_option maxRecDepth 20000 in
theorem gX5_papers_X5_asks : GoodIn wsX5_papers (wsV RX5 86 RX5 yX5_asks wsX5_asks) := goodIn_app (goodIn_of _ (by decide +kernel)) ggX5_papers_X5_asks
theorem dX5_papers_0 : decode cX5_papers 0 = .ok (.aload_n 0, 1) := by decide +kernel
theorem dX5_papers_1 : decode cX5_papers 1 = .ok (.iload_n 1, 1) := by decide +kernel
theorem dX5_papers_2 : decode cX5_papers 2 = .ok (.invokestatic 82, 3) := by decide +kernel
theorem dX5_papers_5 : decode cX5_papers 5 = .ok (.invokevirtual 86, 3) := by decide +kernel
theorem dX5_papers_8 : decode cX5_papers 8 = .ok (.ifCond .eq 12, 3) := by decide +kernel
theorem dX5_papers_11 : decode cX5_papers 11 = .ok (.aload_n 0, 1) := by decide +kernel
theorem dX5_papers_12 : decode cX5_papers 12 = .ok (.getfield 16, 3) := by decide +kernel
theorem dX5_papers_15 : decode cX5_papers 15 = .ok (.iload_n 1, 1) := by decide +kernel
theorem dX5_papers_16 : decode cX5_papers 16 = .ok (.iaload, 1) := by decide +kernel
theorem dX5_papers_17 : decode cX5_papers 17 = .ok (.goto 4, 3) := by decide +kernel
theorem dX5_papers_20 : decode cX5_papers 20 = .ok (.iconst 0, 1) := by decide +kernel
theorem dX5_papers_21 : decode cX5_papers 21 = .ok (.ireturn, 1) := by decide +kernel
set_option maxRecDepth 20000 in
theorem ggX5_isOpen_X5_isBank : GoodIn wsX5_isOpen wsX5_isBank := goodIn_r _ [5] (by decide +kernel) (by decide +kernel)
set_option maxRecDepth 20000 in
theorem gX5_isOpen_X5_isBank : GoodIn wsX5_isOpen (va_wsS RX5 82 yX5_isBank wsX5_isBank) := goodIn_app (goodIn_of _ (by decide +kernel)) ggX5_isOpen_X5_isBank
set_option maxRecDepth 20000 in
theorem ggX5_isOpen_X5_asks : GoodIn wsX5_isOpen wsX5_asks := goodIn_r _ [9, 10, 11, 12, 13, 14, 15, 16, 17, 18, 19, 20, 21, 22, 23, 24, 25, 26, 27, 28, 29, 30, 31, 32, 33, 34, 35] (by decide +kernel) (by decide +kernel)
set_option maxRecDepth 20000 in
theorem gX5_isOpen_X5_asks : GoodIn wsX5_isOpen (wsV RX5 86 RX5 yX5_asks wsX5_asks) := goodIn_app (goodIn_of _ (by decide +kernel)) ggX5_isOpen_X5_asks
theorem dX5_isOpen_0 : decode cX5_isOpen 0 = .ok (.aload_n 0, 1) := by decide +kernel
theorem dX5_isOpen_1 : decode cX5_isOpen 1 = .ok (.iload_n 1, 1) := by decide +kernel
theorem dX5_isOpen_2 : decode cX5_isOpen 2 = .ok (.invokestatic 82, 3) := by decide +kernel
theorem dX5_isOpen_5 : decode cX5_isOpen 5 = .ok (.invokevirtual 86, 3) := by decide +kernel
theorem dX5_isOpen_8 : decode cX5_isOpen 8 = .ok (.ifCond .eq 16, 3) := by decide +kernel
theorem dX5_isOpen_11 : decode cX5_isOpen 11 = .ok (.aload_n 0, 1) := by decide +kernel
theorem dX5_isOpen_12 : decode cX5_isOpen 12 = .ok (.getfield 19, 3) := by decide +kernel
theorem dX5_isOpen_15 : decode cX5_isOpen 15 = .ok (.iload_n 1, 1) := by decide +kernel
theorem dX5_isOpen_16 : decode cX5_isOpen 16 = .ok (.baload, 1) := by decide +kernel
theorem dX5_isOpen_17 : decode cX5_isOpen 17 = .ok (.ifCond .ne 7, 3) := by decide +kernel
theorem dX5_isOpen_20 : decode cX5_isOpen 20 = .ok (.iconst 1, 1) := by decide +kernel
theorem dX5_isOpen_21 : decode cX5_isOpen 21 = .ok (.goto 4, 3) := by decide +kernel
theorem dX5_isOpen_24 : decode cX5_isOpen 24 = .ok (.iconst 0, 1) := by decide +kernel
theorem dX5_isOpen_25 : decode cX5_isOpen 25 = .ok (.ireturn, 1) := by decide +kernel
set_option maxRecDepth 20000 in
theorem ggX5_paid_X5_isBank : GoodIn wsX5_paid wsX5_isBank := goodIn_r _ [5] (by decide +kernel) (by decide +kernel)
set_option maxRecDepth 20000 in
theorem gX5_paid_X5_isBank : GoodIn wsX5_paid (va_wsS RX5 82 yX5_isBank wsX5_isBank) := goodIn_app (goodIn_of _ (by decide +kernel)) ggX5_paid_X5_isBank
set_option maxRecDepth 20000 in
theorem ggX5_paid_X5_asks : GoodIn wsX5_paid wsX5_asks := goodIn_r _ [9, 10, 11, 12, 13, 14, 15, 16, 17, 18, 19, 20, 21, 22, 23, 24, 25, 26, 27, 28, 29, 30, 31, 32, 33, 34, 35] (by decide +kernel) (by decide +kernel)
set_option maxRecDepth 20000 in
theorem gX5_paid_X5_asks : GoodIn wsX5_paid (wsV RX5 86 RX5 yX5_asks wsX5_asks) := goodIn_app (goodIn_of _ (by decide +kernel)) ggX5_paid_X5_asks
theorem dX5_paid_0 : decode cX5_paid 0 = .ok (.aload_n 0, 1) := by decide +kernel
theorem dX5_paid_1 : decode cX5_paid 1 = .ok (.iload_n 1, 1) := by decide +kernel
theorem dX5_paid_2 : decode cX5_paid 2 = .ok (.invokestatic 82, 3) := by decide +kernel
theorem dX5_paid_5 : decode cX5_paid 5 = .ok (.ifCond .eq 14, 3) := by decide +kernel
theorem dX5_paid_8 : decode cX5_paid 8 = .ok (.iload_n 2, 1) := by decide +kernel
theorem dX5_paid_9 : decode cX5_paid 9 = .ok (.invokestatic 82, 3) := by decide +kernel
theorem dX5_paid_12 : decode cX5_paid 12 = .ok (.ifCond .eq 7, 3) := by decide +kernel
theorem dX5_paid_15 : decode cX5_paid 15 = .ok (.iconst 1, 1) := by decide +kernel
theorem dX5_paid_16 : decode cX5_paid 16 = .ok (.goto 4, 3) := by decide +kernel
theorem dX5_paid_19 : decode cX5_paid 19 = .ok (.iconst 0, 1) := by decide +kernel
theorem dX5_paid_20 : decode cX5_paid 20 = .ok (.invokevirtual 86, 3) := by decide +kernel
theorem dX5_paid_23 : decode cX5_paid 23 = .ok (.ifCond .eq 16, 3) := by decide +kernel
theorem dX5_paid_26 : decode cX5_paid 26 = .ok (.aload_n 0, 1) := by decide +kernel
theorem dX5_paid_27 : decode cX5_paid 27 = .ok (.getfield 23, 3) := by decide +kernel
theorem dX5_paid_30 : decode cX5_paid 30 = .ok (.iconst 5, 1) := by decide +kernel
theorem dX5_paid_31 : decode cX5_paid 31 = .ok (.iload_n 1, 1) := by decide +kernel
theorem dX5_paid_32 : decode cX5_paid 32 = .ok (.imul, 1) := by decide +kernel
theorem dX5_paid_33 : decode cX5_paid 33 = .ok (.iload_n 2, 1) := by decide +kernel
theorem dX5_paid_34 : decode cX5_paid 34 = .ok (.iadd, 1) := by decide +kernel
theorem dX5_paid_35 : decode cX5_paid 35 = .ok (.iaload, 1) := by decide +kernel
theorem dX5_paid_36 : decode cX5_paid 36 = .ok (.goto 4, 3) := by decide +kernel
theorem dX5_paid_39 : decode cX5_paid 39 = .ok (.iconst 0, 1) := by decide +kernel
theorem dX5_paid_40 : decode cX5_paid 40 = .ok (.ireturn, 1) := by decide +kernel
set_option maxRecDepth 20000 in
theorem ggX5_pay_X5_isBank : GoodIn wsX5_pay wsX5_isBank := goodIn_r _ [12] (by decide +kernel) (by decide +kernel)
set_option maxRecDepth 20000 in
theorem gX5_pay_X5_isBank : GoodIn wsX5_pay (va_wsS RX5 82 yX5_isBank wsX5_isBank) := goodIn_app (goodIn_of _ (by decide +kernel)) ggX5_pay_X5_isBank
set_option maxRecDepth 20000 in
theorem ggX5_pay_X5_asks : GoodIn wsX5_pay wsX5_asks := goodIn_r _ [16, 17, 25, 26, 27, 28, 29, 30, 31, 32, 33, 34, 35, 36, 37, 38, 39, 40, 41, 42, 43, 44, 45, 46, 47, 48, 49] (by decide +kernel) (by decide +kernel)
set_option maxRecDepth 20000 in
theorem gX5_pay_X5_asks : GoodIn wsX5_pay (wsV RX5 86 RX5 yX5_asks wsX5_asks) := goodIn_app (goodIn_of _ (by decide +kernel)) ggX5_pay_X5_asks
set_option maxRecDepth 20000 in
theorem ggX5_pay_X5_in : GoodIn wsX5_pay wsX5_in := goodIn_r _ [20] (by decide +kernel) (by decide +kernel)
set_option maxRecDepth 20000 in
theorem gX5_pay_X5_in : GoodIn wsX5_pay (va_wsS RX5 90 yX5_in wsX5_in) := goodIn_app (goodIn_of _ (by decide +kernel)) ggX5_pay_X5_in
set_option maxRecDepth 20000 in
theorem ggX5_pay_X5_fails : GoodIn wsX5_pay wsX5_fails := goodIn_r _ [24, 17, 25, 26, 27, 28, 29, 30, 31, 32, 33, 34, 35, 36, 37, 38, 39, 40, 41, 42, 43, 44, 45, 46, 47, 48, 49] (by decide +kernel) (by decide +kernel)
set_option maxRecDepth 20000 in
theorem gX5_pay_X5_fails : GoodIn wsX5_pay (wsV RX5 94 RX5 yX5_fails wsX5_fails) := goodIn_app (goodIn_of _ (by decide +kernel)) ggX5_pay_X5_fails
theorem dX5_pay_0 : decode cX5_pay 0 = .ok (.aload_n 0, 1) := by decide +kernel
theorem dX5_pay_1 : decode cX5_pay 1 = .ok (.iload_n 1, 1) := by decide +kernel
theorem dX5_pay_2 : decode cX5_pay 2 = .ok (.invokestatic 82, 3) := by decide +kernel
theorem dX5_pay_5 : decode cX5_pay 5 = .ok (.ifCond .eq 14, 3) := by decide +kernel
theorem dX5_pay_8 : decode cX5_pay 8 = .ok (.iload_n 2, 1) := by decide +kernel
theorem dX5_pay_9 : decode cX5_pay 9 = .ok (.invokestatic 82, 3) := by decide +kernel
theorem dX5_pay_12 : decode cX5_pay 12 = .ok (.ifCond .eq 7, 3) := by decide +kernel
theorem dX5_pay_15 : decode cX5_pay 15 = .ok (.iconst 1, 1) := by decide +kernel
theorem dX5_pay_16 : decode cX5_pay 16 = .ok (.goto 4, 3) := by decide +kernel
theorem dX5_pay_19 : decode cX5_pay 19 = .ok (.iconst 0, 1) := by decide +kernel
theorem dX5_pay_20 : decode cX5_pay 20 = .ok (.invokevirtual 86, 3) := by decide +kernel
theorem dX5_pay_23 : decode cX5_pay 23 = .ok (.ifCond .ne 5, 3) := by decide +kernel
theorem dX5_pay_26 : decode cX5_pay 26 = .ok (.iconst 0, 1) := by decide +kernel
theorem dX5_pay_27 : decode cX5_pay 27 = .ok (.ireturn, 1) := by decide +kernel
theorem dX5_pay_28 : decode cX5_pay 28 = .ok (.iload_n 1, 1) := by decide +kernel
theorem dX5_pay_29 : decode cX5_pay 29 = .ok (.iload_n 2, 1) := by decide +kernel
theorem dX5_pay_30 : decode cX5_pay 30 = .ok (.if_icmp .eq 23, 3) := by decide +kernel
theorem dX5_pay_33 : decode cX5_pay 33 = .ok (.iload_n 3, 1) := by decide +kernel
theorem dX5_pay_34 : decode cX5_pay 34 = .ok (.iconst 1, 1) := by decide +kernel
theorem dX5_pay_35 : decode cX5_pay 35 = .ok (.ldc 100, 2) := by decide +kernel
theorem dX5_pay_37 : decode cX5_pay 37 = .ok (.invokestatic 90, 3) := by decide +kernel
theorem dX5_pay_40 : decode cX5_pay 40 = .ok (.ifCond .eq 13, 3) := by decide +kernel
theorem dX5_pay_43 : decode cX5_pay 43 = .ok (.iload 4, 2) := by decide +kernel
theorem dX5_pay_45 : decode cX5_pay 45 = .ok (.iconst 0, 1) := by decide +kernel
theorem dX5_pay_46 : decode cX5_pay 46 = .ok (.iconst 2, 1) := by decide +kernel
theorem dX5_pay_47 : decode cX5_pay 47 = .ok (.invokestatic 90, 3) := by decide +kernel
theorem dX5_pay_50 : decode cX5_pay 50 = .ok (.ifCond .ne 9, 3) := by decide +kernel
theorem dX5_pay_53 : decode cX5_pay 53 = .ok (.aload_n 0, 1) := by decide +kernel
theorem dX5_pay_54 : decode cX5_pay 54 = .ok (.iconst 2, 1) := by decide +kernel
theorem dX5_pay_55 : decode cX5_pay 55 = .ok (.invokevirtual 94, 3) := by decide +kernel
theorem dX5_pay_58 : decode cX5_pay 58 = .ok (.ireturn, 1) := by decide +kernel
theorem dX5_pay_59 : decode cX5_pay 59 = .ok (.aload_n 0, 1) := by decide +kernel
theorem dX5_pay_60 : decode cX5_pay 60 = .ok (.getfield 19, 3) := by decide +kernel
theorem dX5_pay_63 : decode cX5_pay 63 = .ok (.iload_n 1, 1) := by decide +kernel
theorem dX5_pay_64 : decode cX5_pay 64 = .ok (.baload, 1) := by decide +kernel
theorem dX5_pay_65 : decode cX5_pay 65 = .ok (.ifCond .ne 21, 3) := by decide +kernel
theorem dX5_pay_68 : decode cX5_pay 68 = .ok (.aload_n 0, 1) := by decide +kernel
theorem dX5_pay_69 : decode cX5_pay 69 = .ok (.getfield 19, 3) := by decide +kernel
theorem dX5_pay_72 : decode cX5_pay 72 = .ok (.iload_n 2, 1) := by decide +kernel
theorem dX5_pay_73 : decode cX5_pay 73 = .ok (.baload, 1) := by decide +kernel
theorem dX5_pay_74 : decode cX5_pay 74 = .ok (.ifCond .ne 12, 3) := by decide +kernel
theorem dX5_pay_77 : decode cX5_pay 77 = .ok (.aload_n 0, 1) := by decide +kernel
theorem dX5_pay_78 : decode cX5_pay 78 = .ok (.getfield 79, 3) := by decide +kernel
theorem dX5_pay_81 : decode cX5_pay 81 = .ok (.bipush 60, 2) := by decide +kernel
theorem dX5_pay_83 : decode cX5_pay 83 = .ok (.if_icmp .ne 9, 3) := by decide +kernel
theorem dX5_pay_86 : decode cX5_pay 86 = .ok (.aload_n 0, 1) := by decide +kernel
theorem dX5_pay_87 : decode cX5_pay 87 = .ok (.iconst 3, 1) := by decide +kernel
theorem dX5_pay_88 : decode cX5_pay 88 = .ok (.invokevirtual 94, 3) := by decide +kernel
theorem dX5_pay_91 : decode cX5_pay 91 = .ok (.ireturn, 1) := by decide +kernel
theorem dX5_pay_92 : decode cX5_pay 92 = .ok (.aload_n 0, 1) := by decide +kernel
theorem dX5_pay_93 : decode cX5_pay 93 = .ok (.getfield 29, 3) := by decide +kernel
theorem dX5_pay_96 : decode cX5_pay 96 = .ok (.aload_n 0, 1) := by decide +kernel
theorem dX5_pay_97 : decode cX5_pay 97 = .ok (.getfield 79, 3) := by decide +kernel
theorem dX5_pay_100 : decode cX5_pay 100 = .ok (.iload_n 1, 1) := by decide +kernel
theorem dX5_pay_101 : decode cX5_pay 101 = .ok (.iastore, 1) := by decide +kernel
theorem dX5_pay_102 : decode cX5_pay 102 = .ok (.aload_n 0, 1) := by decide +kernel
theorem dX5_pay_103 : decode cX5_pay 103 = .ok (.getfield 32, 3) := by decide +kernel
theorem dX5_pay_106 : decode cX5_pay 106 = .ok (.aload_n 0, 1) := by decide +kernel
theorem dX5_pay_107 : decode cX5_pay 107 = .ok (.getfield 79, 3) := by decide +kernel
theorem dX5_pay_110 : decode cX5_pay 110 = .ok (.iload_n 2, 1) := by decide +kernel
theorem dX5_pay_111 : decode cX5_pay 111 = .ok (.iastore, 1) := by decide +kernel
theorem dX5_pay_112 : decode cX5_pay 112 = .ok (.aload_n 0, 1) := by decide +kernel
theorem dX5_pay_113 : decode cX5_pay 113 = .ok (.getfield 35, 3) := by decide +kernel
theorem dX5_pay_116 : decode cX5_pay 116 = .ok (.aload_n 0, 1) := by decide +kernel
theorem dX5_pay_117 : decode cX5_pay 117 = .ok (.getfield 79, 3) := by decide +kernel
theorem dX5_pay_120 : decode cX5_pay 120 = .ok (.iload_n 3, 1) := by decide +kernel
theorem dX5_pay_121 : decode cX5_pay 121 = .ok (.iastore, 1) := by decide +kernel
theorem dX5_pay_122 : decode cX5_pay 122 = .ok (.aload_n 0, 1) := by decide +kernel
theorem dX5_pay_123 : decode cX5_pay 123 = .ok (.getfield 38, 3) := by decide +kernel
theorem dX5_pay_126 : decode cX5_pay 126 = .ok (.aload_n 0, 1) := by decide +kernel
theorem dX5_pay_127 : decode cX5_pay 127 = .ok (.getfield 79, 3) := by decide +kernel
theorem dX5_pay_130 : decode cX5_pay 130 = .ok (.iload 4, 2) := by decide +kernel
theorem dX5_pay_132 : decode cX5_pay 132 = .ok (.iastore, 1) := by decide +kernel
theorem dX5_pay_133 : decode cX5_pay 133 = .ok (.aload_n 0, 1) := by decide +kernel
theorem dX5_pay_134 : decode cX5_pay 134 = .ok (.getfield 41, 3) := by decide +kernel
theorem dX5_pay_137 : decode cX5_pay 137 = .ok (.aload_n 0, 1) := by decide +kernel
theorem dX5_pay_138 : decode cX5_pay 138 = .ok (.getfield 79, 3) := by decide +kernel
theorem dX5_pay_141 : decode cX5_pay 141 = .ok (.iconst 1, 1) := by decide +kernel
theorem dX5_pay_142 : decode cX5_pay 142 = .ok (.bastore, 1) := by decide +kernel
theorem dX5_pay_143 : decode cX5_pay 143 = .ok (.aload_n 0, 1) := by decide +kernel
theorem dX5_pay_144 : decode cX5_pay 144 = .ok (.dup, 1) := by decide +kernel
theorem dX5_pay_145 : decode cX5_pay 145 = .ok (.getfield 79, 3) := by decide +kernel
theorem dX5_pay_148 : decode cX5_pay 148 = .ok (.iconst 1, 1) := by decide +kernel
theorem dX5_pay_149 : decode cX5_pay 149 = .ok (.iadd, 1) := by decide +kernel
theorem dX5_pay_150 : decode cX5_pay 150 = .ok (.putfield 79, 3) := by decide +kernel
theorem dX5_pay_153 : decode cX5_pay 153 = .ok (.aload_n 0, 1) := by decide +kernel
theorem dX5_pay_154 : decode cX5_pay 154 = .ok (.getfield 79, 3) := by decide +kernel
theorem dX5_pay_157 : decode cX5_pay 157 = .ok (.iconst 1, 1) := by decide +kernel
theorem dX5_pay_158 : decode cX5_pay 158 = .ok (.isub, 1) := by decide +kernel
theorem dX5_pay_159 : decode cX5_pay 159 = .ok (.ireturn, 1) := by decide +kernel
theorem dX5_waiting_0 : decode cX5_waiting 0 = .ok (.iconst 0, 1) := by decide +kernel
theorem dX5_waiting_1 : decode cX5_waiting 1 = .ok (.istore_n 1, 1) := by decide +kernel
theorem dX5_waiting_2 : decode cX5_waiting 2 = .ok (.iconst 0, 1) := by decide +kernel
theorem dX5_waiting_3 : decode cX5_waiting 3 = .ok (.istore_n 2, 1) := by decide +kernel
theorem dX5_waiting_4 : decode cX5_waiting 4 = .ok (.iload_n 2, 1) := by decide +kernel
theorem dX5_waiting_5 : decode cX5_waiting 5 = .ok (.aload_n 0, 1) := by decide +kernel
theorem dX5_waiting_6 : decode cX5_waiting 6 = .ok (.getfield 79, 3) := by decide +kernel
theorem dX5_waiting_9 : decode cX5_waiting 9 = .ok (.if_icmp .ge 26, 3) := by decide +kernel
theorem dX5_waiting_12 : decode cX5_waiting 12 = .ok (.iload_n 1, 1) := by decide +kernel
theorem dX5_waiting_13 : decode cX5_waiting 13 = .ok (.aload_n 0, 1) := by decide +kernel
theorem dX5_waiting_14 : decode cX5_waiting 14 = .ok (.getfield 41, 3) := by decide +kernel
theorem dX5_waiting_17 : decode cX5_waiting 17 = .ok (.iload_n 2, 1) := by decide +kernel
theorem dX5_waiting_18 : decode cX5_waiting 18 = .ok (.baload, 1) := by decide +kernel
theorem dX5_waiting_19 : decode cX5_waiting 19 = .ok (.ifCond .eq 7, 3) := by decide +kernel
theorem dX5_waiting_22 : decode cX5_waiting 22 = .ok (.iconst 1, 1) := by decide +kernel
theorem dX5_waiting_23 : decode cX5_waiting 23 = .ok (.goto 4, 3) := by decide +kernel
theorem dX5_waiting_26 : decode cX5_waiting 26 = .ok (.iconst 0, 1) := by decide +kernel
theorem dX5_waiting_27 : decode cX5_waiting 27 = .ok (.iadd, 1) := by decide +kernel
theorem dX5_waiting_28 : decode cX5_waiting 28 = .ok (.istore_n 1, 1) := by decide +kernel
theorem dX5_waiting_29 : decode cX5_waiting 29 = .ok (.iinc 2 1, 3) := by decide +kernel
theorem dX5_waiting_32 : decode cX5_waiting 32 = .ok (.goto (-28), 3) := by decide +kernel
theorem dX5_waiting_35 : decode cX5_waiting 35 = .ok (.iload_n 1, 1) := by decide +kernel
theorem dX5_waiting_36 : decode cX5_waiting 36 = .ok (.ireturn, 1) := by decide +kernel
set_option maxRecDepth 20000 in
theorem ggX5_drop_X5_isPayment : GoodIn wsX5_drop wsX5_isPayment := goodIn_r _ [6, 7, 21, 22, 23, 24, 25, 26, 27, 28, 29, 30, 31, 32, 33, 34, 35, 36, 37, 38, 39, 40, 41, 42, 43, 44, 45] (by decide +kernel) (by decide +kernel)
set_option maxRecDepth 20000 in
theorem gX5_drop_X5_isPayment : GoodIn wsX5_drop (wsV RX5 101 RX5 yX5_isPayment wsX5_isPayment) := goodIn_app (goodIn_of _ (by decide +kernel)) ggX5_drop_X5_isPayment
set_option maxRecDepth 20000 in
theorem ggX5_drop_X5_asks : GoodIn wsX5_drop wsX5_asks := goodIn_r _ [11, 12, 21, 22, 23, 24, 25, 26, 27, 28, 29, 30, 31, 32, 33, 34, 35, 36, 37, 38, 39, 40, 41, 42, 43, 44, 45] (by decide +kernel) (by decide +kernel)
set_option maxRecDepth 20000 in
theorem gX5_drop_X5_asks : GoodIn wsX5_drop (wsV RX5 86 RX5 yX5_asks wsX5_asks) := goodIn_app (goodIn_of _ (by decide +kernel)) ggX5_drop_X5_asks
set_option maxRecDepth 20000 in
theorem ggX5_drop_X5_fails : GoodIn wsX5_drop wsX5_fails := goodIn_r _ [16, 12, 21, 22, 23, 24, 25, 26, 27, 28, 29, 30, 31, 32, 33, 34, 35, 36, 37, 38, 39, 40, 41, 42, 43, 44, 45] (by decide +kernel) (by decide +kernel)
set_option maxRecDepth 20000 in
theorem gX5_drop_X5_fails : GoodIn wsX5_drop (wsV RX5 94 RX5 yX5_fails wsX5_fails) := goodIn_app (goodIn_of _ (by decide +kernel)) ggX5_drop_X5_fails
set_option maxRecDepth 20000 in
theorem ggX5_drop_X5_waiting : GoodIn wsX5_drop wsX5_waiting := goodIn_r _ [20, 7, 1, 21, 22, 23, 24, 25, 26, 27, 28, 29, 30, 31, 32, 33, 34, 35, 36, 37, 38, 39, 40, 41, 42, 43, 44, 45] (by decide +kernel) (by decide +kernel)
set_option maxRecDepth 20000 in
theorem gX5_drop_X5_waiting : GoodIn wsX5_drop (wsV RX5 104 RX5 yX5_waiting wsX5_waiting) := goodIn_app (goodIn_of _ (by decide +kernel)) ggX5_drop_X5_waiting
theorem dX5_drop_0 : decode cX5_drop 0 = .ok (.aload_n 0, 1) := by decide +kernel
theorem dX5_drop_1 : decode cX5_drop 1 = .ok (.aload_n 0, 1) := by decide +kernel
theorem dX5_drop_2 : decode cX5_drop 2 = .ok (.iload_n 1, 1) := by decide +kernel
theorem dX5_drop_3 : decode cX5_drop 3 = .ok (.invokevirtual 101, 3) := by decide +kernel
theorem dX5_drop_6 : decode cX5_drop 6 = .ok (.invokevirtual 86, 3) := by decide +kernel
theorem dX5_drop_9 : decode cX5_drop 9 = .ok (.ifCond .ne 5, 3) := by decide +kernel
theorem dX5_drop_12 : decode cX5_drop 12 = .ok (.iconst 0, 1) := by decide +kernel
theorem dX5_drop_13 : decode cX5_drop 13 = .ok (.ireturn, 1) := by decide +kernel
theorem dX5_drop_14 : decode cX5_drop 14 = .ok (.aload_n 0, 1) := by decide +kernel
theorem dX5_drop_15 : decode cX5_drop 15 = .ok (.getfield 41, 3) := by decide +kernel
theorem dX5_drop_18 : decode cX5_drop 18 = .ok (.iload_n 1, 1) := by decide +kernel
theorem dX5_drop_19 : decode cX5_drop 19 = .ok (.baload, 1) := by decide +kernel
theorem dX5_drop_20 : decode cX5_drop 20 = .ok (.ifCond .ne 9, 3) := by decide +kernel
theorem dX5_drop_23 : decode cX5_drop 23 = .ok (.aload_n 0, 1) := by decide +kernel
theorem dX5_drop_24 : decode cX5_drop 24 = .ok (.iconst 2, 1) := by decide +kernel
theorem dX5_drop_25 : decode cX5_drop 25 = .ok (.invokevirtual 94, 3) := by decide +kernel
theorem dX5_drop_28 : decode cX5_drop 28 = .ok (.ireturn, 1) := by decide +kernel
theorem dX5_drop_29 : decode cX5_drop 29 = .ok (.aload_n 0, 1) := by decide +kernel
theorem dX5_drop_30 : decode cX5_drop 30 = .ok (.getfield 41, 3) := by decide +kernel
theorem dX5_drop_33 : decode cX5_drop 33 = .ok (.iload_n 1, 1) := by decide +kernel
theorem dX5_drop_34 : decode cX5_drop 34 = .ok (.iconst 0, 1) := by decide +kernel
theorem dX5_drop_35 : decode cX5_drop 35 = .ok (.bastore, 1) := by decide +kernel
theorem dX5_drop_36 : decode cX5_drop 36 = .ok (.aload_n 0, 1) := by decide +kernel
theorem dX5_drop_37 : decode cX5_drop 37 = .ok (.invokevirtual 104, 3) := by decide +kernel
theorem dX5_drop_40 : decode cX5_drop 40 = .ok (.ireturn, 1) := by decide +kernel
set_option maxRecDepth 20000 in
theorem ggX5_setSmall_X5_in : GoodIn wsX5_setSmall wsX5_in := goodIn_r _ [6] (by decide +kernel) (by decide +kernel)
set_option maxRecDepth 20000 in
theorem gX5_setSmall_X5_in : GoodIn wsX5_setSmall (va_wsS RX5 90 yX5_in wsX5_in) := goodIn_app (goodIn_of _ (by decide +kernel)) ggX5_setSmall_X5_in
set_option maxRecDepth 20000 in
theorem ggX5_setSmall_X5_asks : GoodIn wsX5_setSmall wsX5_asks := goodIn_r _ [10, 11, 12, 13, 14, 15, 16, 17, 18, 19, 20, 21, 22, 23, 24, 25, 26, 27, 28, 29, 30, 31, 32, 33, 34, 35, 36] (by decide +kernel) (by decide +kernel)
set_option maxRecDepth 20000 in
theorem gX5_setSmall_X5_asks : GoodIn wsX5_setSmall (wsV RX5 86 RX5 yX5_asks wsX5_asks) := goodIn_app (goodIn_of _ (by decide +kernel)) ggX5_setSmall_X5_asks
theorem dX5_setSmall_0 : decode cX5_setSmall 0 = .ok (.aload_n 0, 1) := by decide +kernel
theorem dX5_setSmall_1 : decode cX5_setSmall 1 = .ok (.iload_n 1, 1) := by decide +kernel
theorem dX5_setSmall_2 : decode cX5_setSmall 2 = .ok (.iconst 0, 1) := by decide +kernel
theorem dX5_setSmall_3 : decode cX5_setSmall 3 = .ok (.ldc 100, 2) := by decide +kernel
theorem dX5_setSmall_5 : decode cX5_setSmall 5 = .ok (.invokestatic 90, 3) := by decide +kernel
theorem dX5_setSmall_8 : decode cX5_setSmall 8 = .ok (.invokevirtual 86, 3) := by decide +kernel
theorem dX5_setSmall_11 : decode cX5_setSmall 11 = .ok (.ifCond .ne 5, 3) := by decide +kernel
theorem dX5_setSmall_14 : decode cX5_setSmall 14 = .ok (.iconst 0, 1) := by decide +kernel
theorem dX5_setSmall_15 : decode cX5_setSmall 15 = .ok (.ireturn, 1) := by decide +kernel
theorem dX5_setSmall_16 : decode cX5_setSmall 16 = .ok (.aload_n 0, 1) := by decide +kernel
theorem dX5_setSmall_17 : decode cX5_setSmall 17 = .ok (.getfield 44, 3) := by decide +kernel
theorem dX5_setSmall_20 : decode cX5_setSmall 20 = .ok (.istore_n 2, 1) := by decide +kernel
theorem dX5_setSmall_21 : decode cX5_setSmall 21 = .ok (.aload_n 0, 1) := by decide +kernel
theorem dX5_setSmall_22 : decode cX5_setSmall 22 = .ok (.iload_n 1, 1) := by decide +kernel
theorem dX5_setSmall_23 : decode cX5_setSmall 23 = .ok (.putfield 44, 3) := by decide +kernel
theorem dX5_setSmall_26 : decode cX5_setSmall 26 = .ok (.iload_n 2, 1) := by decide +kernel
theorem dX5_setSmall_27 : decode cX5_setSmall 27 = .ok (.ireturn, 1) := by decide +kernel
theorem dX5_at_0 : decode cX5_at 0 = .ok (.iconst 0, 1) := by decide +kernel
theorem dX5_at_1 : decode cX5_at 1 = .ok (.istore_n 3, 1) := by decide +kernel
theorem dX5_at_2 : decode cX5_at 2 = .ok (.iconst 2, 1) := by decide +kernel
theorem dX5_at_3 : decode cX5_at 3 = .ok (.istore 4, 2) := by decide +kernel
theorem dX5_at_5 : decode cX5_at 5 = .ok (.iload 4, 2) := by decide +kernel
theorem dX5_at_7 : decode cX5_at 7 = .ok (.ifCond .lt 71, 3) := by decide +kernel
theorem dX5_at_10 : decode cX5_at 10 = .ok (.iconst 0, 1) := by decide +kernel
theorem dX5_at_11 : decode cX5_at 11 = .ok (.istore 5, 2) := by decide +kernel
theorem dX5_at_13 : decode cX5_at 13 = .ok (.iload 5, 2) := by decide +kernel
theorem dX5_at_15 : decode cX5_at 15 = .ok (.aload_n 0, 1) := by decide +kernel
theorem dX5_at_16 : decode cX5_at 16 = .ok (.getfield 79, 3) := by decide +kernel
theorem dX5_at_19 : decode cX5_at 19 = .ok (.if_icmp .ge 53, 3) := by decide +kernel
theorem dX5_at_22 : decode cX5_at 22 = .ok (.aload_n 0, 1) := by decide +kernel
theorem dX5_at_23 : decode cX5_at 23 = .ok (.getfield 41, 3) := by decide +kernel
theorem dX5_at_26 : decode cX5_at 26 = .ok (.iload 5, 2) := by decide +kernel
theorem dX5_at_28 : decode cX5_at 28 = .ok (.baload, 1) := by decide +kernel
theorem dX5_at_29 : decode cX5_at 29 = .ok (.ifCond .eq 37, 3) := by decide +kernel
theorem dX5_at_32 : decode cX5_at 32 = .ok (.aload_n 0, 1) := by decide +kernel
theorem dX5_at_33 : decode cX5_at 33 = .ok (.getfield 29, 3) := by decide +kernel
theorem dX5_at_36 : decode cX5_at 36 = .ok (.iload 5, 2) := by decide +kernel
theorem dX5_at_38 : decode cX5_at 38 = .ok (.iaload, 1) := by decide +kernel
theorem dX5_at_39 : decode cX5_at 39 = .ok (.iload_n 1, 1) := by decide +kernel
theorem dX5_at_40 : decode cX5_at 40 = .ok (.if_icmp .ne 26, 3) := by decide +kernel
theorem dX5_at_43 : decode cX5_at 43 = .ok (.aload_n 0, 1) := by decide +kernel
theorem dX5_at_44 : decode cX5_at 44 = .ok (.getfield 38, 3) := by decide +kernel
theorem dX5_at_47 : decode cX5_at 47 = .ok (.iload 5, 2) := by decide +kernel
theorem dX5_at_49 : decode cX5_at 49 = .ok (.iaload, 1) := by decide +kernel
theorem dX5_at_50 : decode cX5_at 50 = .ok (.iload 4, 2) := by decide +kernel
theorem dX5_at_52 : decode cX5_at 52 = .ok (.if_icmp .ne 14, 3) := by decide +kernel
theorem dX5_at_55 : decode cX5_at 55 = .ok (.iload_n 3, 1) := by decide +kernel
theorem dX5_at_56 : decode cX5_at 56 = .ok (.iload_n 2, 1) := by decide +kernel
theorem dX5_at_57 : decode cX5_at 57 = .ok (.if_icmp .ne 6, 3) := by decide +kernel
theorem dX5_at_60 : decode cX5_at 60 = .ok (.iload 5, 2) := by decide +kernel
theorem dX5_at_62 : decode cX5_at 62 = .ok (.ireturn, 1) := by decide +kernel
theorem dX5_at_63 : decode cX5_at 63 = .ok (.iinc 3 1, 3) := by decide +kernel
theorem dX5_at_66 : decode cX5_at 66 = .ok (.iinc 5 1, 3) := by decide +kernel
theorem dX5_at_69 : decode cX5_at 69 = .ok (.goto (-56), 3) := by decide +kernel
theorem dX5_at_72 : decode cX5_at 72 = .ok (.iinc 4 (-1), 3) := by decide +kernel
theorem dX5_at_75 : decode cX5_at 75 = .ok (.goto (-70), 3) := by decide +kernel
theorem dX5_at_78 : decode cX5_at 78 = .ok (.iconst (-1), 1) := by decide +kernel
theorem dX5_at_79 : decode cX5_at 79 = .ok (.ireturn, 1) := by decide +kernel
theorem dX5_reason_0 : decode cX5_reason 0 = .ok (.aload_n 0, 1) := by decide +kernel
theorem dX5_reason_1 : decode cX5_reason 1 = .ok (.getfield 29, 3) := by decide +kernel
theorem dX5_reason_4 : decode cX5_reason 4 = .ok (.iload_n 1, 1) := by decide +kernel
theorem dX5_reason_5 : decode cX5_reason 5 = .ok (.iaload, 1) := by decide +kernel
theorem dX5_reason_6 : decode cX5_reason 6 = .ok (.istore_n 2, 1) := by decide +kernel
theorem dX5_reason_7 : decode cX5_reason 7 = .ok (.iconst 5, 1) := by decide +kernel
theorem dX5_reason_8 : decode cX5_reason 8 = .ok (.iload_n 2, 1) := by decide +kernel
theorem dX5_reason_9 : decode cX5_reason 9 = .ok (.imul, 1) := by decide +kernel
theorem dX5_reason_10 : decode cX5_reason 10 = .ok (.aload_n 0, 1) := by decide +kernel
theorem dX5_reason_11 : decode cX5_reason 11 = .ok (.getfield 32, 3) := by decide +kernel
theorem dX5_reason_14 : decode cX5_reason 14 = .ok (.iload_n 1, 1) := by decide +kernel
theorem dX5_reason_15 : decode cX5_reason 15 = .ok (.iaload, 1) := by decide +kernel
theorem dX5_reason_16 : decode cX5_reason 16 = .ok (.iadd, 1) := by decide +kernel
theorem dX5_reason_17 : decode cX5_reason 17 = .ok (.istore_n 3, 1) := by decide +kernel
theorem dX5_reason_18 : decode cX5_reason 18 = .ok (.aload_n 0, 1) := by decide +kernel
theorem dX5_reason_19 : decode cX5_reason 19 = .ok (.getfield 41, 3) := by decide +kernel
theorem dX5_reason_22 : decode cX5_reason 22 = .ok (.iload_n 1, 1) := by decide +kernel
theorem dX5_reason_23 : decode cX5_reason 23 = .ok (.baload, 1) := by decide +kernel
theorem dX5_reason_24 : decode cX5_reason 24 = .ok (.ifCond .ne 7, 3) := by decide +kernel
theorem dX5_reason_27 : decode cX5_reason 27 = .ok (.iconst 3, 1) := by decide +kernel
theorem dX5_reason_28 : decode cX5_reason 28 = .ok (.goto 56, 3) := by decide +kernel
theorem dX5_reason_31 : decode cX5_reason 31 = .ok (.aload_n 0, 1) := by decide +kernel
theorem dX5_reason_32 : decode cX5_reason 32 = .ok (.getfield 7, 3) := by decide +kernel
theorem dX5_reason_35 : decode cX5_reason 35 = .ok (.iload_n 2, 1) := by decide +kernel
theorem dX5_reason_36 : decode cX5_reason 36 = .ok (.iaload, 1) := by decide +kernel
theorem dX5_reason_37 : decode cX5_reason 37 = .ok (.aload_n 0, 1) := by decide +kernel
theorem dX5_reason_38 : decode cX5_reason 38 = .ok (.getfield 35, 3) := by decide +kernel
theorem dX5_reason_41 : decode cX5_reason 41 = .ok (.iload_n 1, 1) := by decide +kernel
theorem dX5_reason_42 : decode cX5_reason 42 = .ok (.iaload, 1) := by decide +kernel
theorem dX5_reason_43 : decode cX5_reason 43 = .ok (.isub, 1) := by decide +kernel
theorem dX5_reason_44 : decode cX5_reason 44 = .ok (.aload_n 0, 1) := by decide +kernel
theorem dX5_reason_45 : decode cX5_reason 45 = .ok (.getfield 13, 3) := by decide +kernel
theorem dX5_reason_48 : decode cX5_reason 48 = .ok (.iload_n 2, 1) := by decide +kernel
theorem dX5_reason_49 : decode cX5_reason 49 = .ok (.iaload, 1) := by decide +kernel
theorem dX5_reason_50 : decode cX5_reason 50 = .ok (.if_icmp .ge 7, 3) := by decide +kernel
theorem dX5_reason_53 : decode cX5_reason 53 = .ok (.iconst 1, 1) := by decide +kernel
theorem dX5_reason_54 : decode cX5_reason 54 = .ok (.goto 30, 3) := by decide +kernel
theorem dX5_reason_57 : decode cX5_reason 57 = .ok (.aload_n 0, 1) := by decide +kernel
theorem dX5_reason_58 : decode cX5_reason 58 = .ok (.getfield 23, 3) := by decide +kernel
theorem dX5_reason_61 : decode cX5_reason 61 = .ok (.iload_n 3, 1) := by decide +kernel
theorem dX5_reason_62 : decode cX5_reason 62 = .ok (.iaload, 1) := by decide +kernel
theorem dX5_reason_63 : decode cX5_reason 63 = .ok (.aload_n 0, 1) := by decide +kernel
theorem dX5_reason_64 : decode cX5_reason 64 = .ok (.getfield 35, 3) := by decide +kernel
theorem dX5_reason_67 : decode cX5_reason 67 = .ok (.iload_n 1, 1) := by decide +kernel
theorem dX5_reason_68 : decode cX5_reason 68 = .ok (.iaload, 1) := by decide +kernel
theorem dX5_reason_69 : decode cX5_reason 69 = .ok (.iadd, 1) := by decide +kernel
theorem dX5_reason_70 : decode cX5_reason 70 = .ok (.aload_n 0, 1) := by decide +kernel
theorem dX5_reason_71 : decode cX5_reason 71 = .ok (.getfield 26, 3) := by decide +kernel
theorem dX5_reason_74 : decode cX5_reason 74 = .ok (.iload_n 3, 1) := by decide +kernel
theorem dX5_reason_75 : decode cX5_reason 75 = .ok (.iaload, 1) := by decide +kernel
theorem dX5_reason_76 : decode cX5_reason 76 = .ok (.if_icmp .le 7, 3) := by decide +kernel
theorem dX5_reason_79 : decode cX5_reason 79 = .ok (.iconst 2, 1) := by decide +kernel
theorem dX5_reason_80 : decode cX5_reason 80 = .ok (.goto 4, 3) := by decide +kernel
theorem dX5_reason_83 : decode cX5_reason 83 = .ok (.iconst 0, 1) := by decide +kernel
theorem dX5_reason_84 : decode cX5_reason 84 = .ok (.ireturn, 1) := by decide +kernel
theorem dX5_moves_0 : decode cX5_moves 0 = .ok (.iload_n 2, 1) := by decide +kernel
theorem dX5_moves_1 : decode cX5_moves 1 = .ok (.aload_n 0, 1) := by decide +kernel
theorem dX5_moves_2 : decode cX5_moves 2 = .ok (.getfield 35, 3) := by decide +kernel
theorem dX5_moves_5 : decode cX5_moves 5 = .ok (.iload_n 1, 1) := by decide +kernel
theorem dX5_moves_6 : decode cX5_moves 6 = .ok (.iaload, 1) := by decide +kernel
theorem dX5_moves_7 : decode cX5_moves 7 = .ok (.imul, 1) := by decide +kernel
theorem dX5_moves_8 : decode cX5_moves 8 = .ok (.istore_n 3, 1) := by decide +kernel
theorem dX5_moves_9 : decode cX5_moves 9 = .ok (.aload_n 0, 1) := by decide +kernel
theorem dX5_moves_10 : decode cX5_moves 10 = .ok (.getfield 7, 3) := by decide +kernel
theorem dX5_moves_13 : decode cX5_moves 13 = .ok (.aload_n 0, 1) := by decide +kernel
theorem dX5_moves_14 : decode cX5_moves 14 = .ok (.getfield 29, 3) := by decide +kernel
theorem dX5_moves_17 : decode cX5_moves 17 = .ok (.iload_n 1, 1) := by decide +kernel
theorem dX5_moves_18 : decode cX5_moves 18 = .ok (.iaload, 1) := by decide +kernel
theorem dX5_moves_19 : decode cX5_moves 19 = .ok (.dup2, 1) := by decide +kernel
theorem dX5_moves_20 : decode cX5_moves 20 = .ok (.iaload, 1) := by decide +kernel
theorem dX5_moves_21 : decode cX5_moves 21 = .ok (.iload_n 3, 1) := by decide +kernel
theorem dX5_moves_22 : decode cX5_moves 22 = .ok (.isub, 1) := by decide +kernel
theorem dX5_moves_23 : decode cX5_moves 23 = .ok (.iastore, 1) := by decide +kernel
theorem dX5_moves_24 : decode cX5_moves 24 = .ok (.aload_n 0, 1) := by decide +kernel
theorem dX5_moves_25 : decode cX5_moves 25 = .ok (.getfield 7, 3) := by decide +kernel
theorem dX5_moves_28 : decode cX5_moves 28 = .ok (.aload_n 0, 1) := by decide +kernel
theorem dX5_moves_29 : decode cX5_moves 29 = .ok (.getfield 32, 3) := by decide +kernel
theorem dX5_moves_32 : decode cX5_moves 32 = .ok (.iload_n 1, 1) := by decide +kernel
theorem dX5_moves_33 : decode cX5_moves 33 = .ok (.iaload, 1) := by decide +kernel
theorem dX5_moves_34 : decode cX5_moves 34 = .ok (.dup2, 1) := by decide +kernel
theorem dX5_moves_35 : decode cX5_moves 35 = .ok (.iaload, 1) := by decide +kernel
theorem dX5_moves_36 : decode cX5_moves 36 = .ok (.iload_n 3, 1) := by decide +kernel
theorem dX5_moves_37 : decode cX5_moves 37 = .ok (.iadd, 1) := by decide +kernel
theorem dX5_moves_38 : decode cX5_moves 38 = .ok (.iastore, 1) := by decide +kernel
theorem dX5_moves_39 : decode cX5_moves 39 = .ok (.aload_n 0, 1) := by decide +kernel
theorem dX5_moves_40 : decode cX5_moves 40 = .ok (.getfield 23, 3) := by decide +kernel
theorem dX5_moves_43 : decode cX5_moves 43 = .ok (.iconst 5, 1) := by decide +kernel
theorem dX5_moves_44 : decode cX5_moves 44 = .ok (.aload_n 0, 1) := by decide +kernel
theorem dX5_moves_45 : decode cX5_moves 45 = .ok (.getfield 29, 3) := by decide +kernel
theorem dX5_moves_48 : decode cX5_moves 48 = .ok (.iload_n 1, 1) := by decide +kernel
theorem dX5_moves_49 : decode cX5_moves 49 = .ok (.iaload, 1) := by decide +kernel
theorem dX5_moves_50 : decode cX5_moves 50 = .ok (.imul, 1) := by decide +kernel
theorem dX5_moves_51 : decode cX5_moves 51 = .ok (.aload_n 0, 1) := by decide +kernel
theorem dX5_moves_52 : decode cX5_moves 52 = .ok (.getfield 32, 3) := by decide +kernel
theorem dX5_moves_55 : decode cX5_moves 55 = .ok (.iload_n 1, 1) := by decide +kernel
theorem dX5_moves_56 : decode cX5_moves 56 = .ok (.iaload, 1) := by decide +kernel
theorem dX5_moves_57 : decode cX5_moves 57 = .ok (.iadd, 1) := by decide +kernel
theorem dX5_moves_58 : decode cX5_moves 58 = .ok (.dup2, 1) := by decide +kernel
theorem dX5_moves_59 : decode cX5_moves 59 = .ok (.iaload, 1) := by decide +kernel
theorem dX5_moves_60 : decode cX5_moves 60 = .ok (.iload_n 3, 1) := by decide +kernel
theorem dX5_moves_61 : decode cX5_moves 61 = .ok (.iadd, 1) := by decide +kernel
theorem dX5_moves_62 : decode cX5_moves 62 = .ok (.iastore, 1) := by decide +kernel
theorem dX5_moves_63 : decode cX5_moves 63 = .ok (.aload_n 0, 1) := by decide +kernel
theorem dX5_moves_64 : decode cX5_moves 64 = .ok (.getfield 23, 3) := by decide +kernel
theorem dX5_moves_67 : decode cX5_moves 67 = .ok (.iconst 5, 1) := by decide +kernel
theorem dX5_moves_68 : decode cX5_moves 68 = .ok (.aload_n 0, 1) := by decide +kernel
theorem dX5_moves_69 : decode cX5_moves 69 = .ok (.getfield 32, 3) := by decide +kernel
theorem dX5_moves_72 : decode cX5_moves 72 = .ok (.iload_n 1, 1) := by decide +kernel
theorem dX5_moves_73 : decode cX5_moves 73 = .ok (.iaload, 1) := by decide +kernel
theorem dX5_moves_74 : decode cX5_moves 74 = .ok (.imul, 1) := by decide +kernel
theorem dX5_moves_75 : decode cX5_moves 75 = .ok (.aload_n 0, 1) := by decide +kernel
theorem dX5_moves_76 : decode cX5_moves 76 = .ok (.getfield 29, 3) := by decide +kernel
theorem dX5_moves_79 : decode cX5_moves 79 = .ok (.iload_n 1, 1) := by decide +kernel
theorem dX5_moves_80 : decode cX5_moves 80 = .ok (.iaload, 1) := by decide +kernel
theorem dX5_moves_81 : decode cX5_moves 81 = .ok (.iadd, 1) := by decide +kernel
theorem dX5_moves_82 : decode cX5_moves 82 = .ok (.dup2, 1) := by decide +kernel
theorem dX5_moves_83 : decode cX5_moves 83 = .ok (.iaload, 1) := by decide +kernel
theorem dX5_moves_84 : decode cX5_moves 84 = .ok (.iload_n 3, 1) := by decide +kernel
theorem dX5_moves_85 : decode cX5_moves 85 = .ok (.isub, 1) := by decide +kernel
theorem dX5_moves_86 : decode cX5_moves 86 = .ok (.iastore, 1) := by decide +kernel
theorem dX5_moves_87 : decode cX5_moves 87 = .ok (.return_, 1) := by decide +kernel
set_option maxRecDepth 20000 in
theorem ggX5_goes_X5_moves : GoodIn wsX5_goes wsX5_moves := goodIn_r _ [6, 7, 8, 9, 10, 11, 12, 13, 14, 15, 16, 17, 18, 19, 20, 21, 22, 23, 24, 25, 26, 27, 28, 29, 30, 31, 32, 33, 34, 35, 36] (by decide +kernel) (by decide +kernel)
set_option maxRecDepth 20000 in
theorem gX5_goes_X5_moves : GoodIn wsX5_goes (wsV RX5 108 RX5 yX5_moves wsX5_moves) := goodIn_app (goodIn_of _ (by decide +kernel)) ggX5_goes_X5_moves
theorem dX5_goes_0 : decode cX5_goes 0 = .ok (.aload_n 0, 1) := by decide +kernel
theorem dX5_goes_1 : decode cX5_goes 1 = .ok (.iload_n 1, 1) := by decide +kernel
theorem dX5_goes_2 : decode cX5_goes 2 = .ok (.iconst 1, 1) := by decide +kernel
theorem dX5_goes_3 : decode cX5_goes 3 = .ok (.invokevirtual 108, 3) := by decide +kernel
theorem dX5_goes_6 : decode cX5_goes 6 = .ok (.aload_n 0, 1) := by decide +kernel
theorem dX5_goes_7 : decode cX5_goes 7 = .ok (.getfield 41, 3) := by decide +kernel
theorem dX5_goes_10 : decode cX5_goes 10 = .ok (.iload_n 1, 1) := by decide +kernel
theorem dX5_goes_11 : decode cX5_goes 11 = .ok (.iconst 0, 1) := by decide +kernel
theorem dX5_goes_12 : decode cX5_goes 12 = .ok (.bastore, 1) := by decide +kernel
theorem dX5_goes_13 : decode cX5_goes 13 = .ok (.return_, 1) := by decide +kernel
theorem dX5_isSound_0 : decode cX5_isSound 0 = .ok (.iconst 1, 1) := by decide +kernel
theorem dX5_isSound_1 : decode cX5_isSound 1 = .ok (.istore_n 1, 1) := by decide +kernel
theorem dX5_isSound_2 : decode cX5_isSound 2 = .ok (.iconst 0, 1) := by decide +kernel
theorem dX5_isSound_3 : decode cX5_isSound 3 = .ok (.istore_n 2, 1) := by decide +kernel
theorem dX5_isSound_4 : decode cX5_isSound 4 = .ok (.iload_n 2, 1) := by decide +kernel
theorem dX5_isSound_5 : decode cX5_isSound 5 = .ok (.bipush 25, 2) := by decide +kernel
theorem dX5_isSound_7 : decode cX5_isSound 7 = .ok (.if_icmp .ge 53, 3) := by decide +kernel
theorem dX5_isSound_10 : decode cX5_isSound 10 = .ok (.iload_n 1, 1) := by decide +kernel
theorem dX5_isSound_11 : decode cX5_isSound 11 = .ok (.ifCond .eq 41, 3) := by decide +kernel
theorem dX5_isSound_14 : decode cX5_isSound 14 = .ok (.aload_n 0, 1) := by decide +kernel
theorem dX5_isSound_15 : decode cX5_isSound 15 = .ok (.getfield 7, 3) := by decide +kernel
theorem dX5_isSound_18 : decode cX5_isSound 18 = .ok (.iload_n 2, 1) := by decide +kernel
theorem dX5_isSound_19 : decode cX5_isSound 19 = .ok (.iconst 5, 1) := by decide +kernel
theorem dX5_isSound_20 : decode cX5_isSound 20 = .ok (.idiv, 1) := by decide +kernel
theorem dX5_isSound_21 : decode cX5_isSound 21 = .ok (.iaload, 1) := by decide +kernel
theorem dX5_isSound_22 : decode cX5_isSound 22 = .ok (.aload_n 0, 1) := by decide +kernel
theorem dX5_isSound_23 : decode cX5_isSound 23 = .ok (.getfield 13, 3) := by decide +kernel
theorem dX5_isSound_26 : decode cX5_isSound 26 = .ok (.iload_n 2, 1) := by decide +kernel
theorem dX5_isSound_27 : decode cX5_isSound 27 = .ok (.iconst 5, 1) := by decide +kernel
theorem dX5_isSound_28 : decode cX5_isSound 28 = .ok (.idiv, 1) := by decide +kernel
theorem dX5_isSound_29 : decode cX5_isSound 29 = .ok (.iaload, 1) := by decide +kernel
theorem dX5_isSound_30 : decode cX5_isSound 30 = .ok (.if_icmp .lt 22, 3) := by decide +kernel
theorem dX5_isSound_33 : decode cX5_isSound 33 = .ok (.aload_n 0, 1) := by decide +kernel
theorem dX5_isSound_34 : decode cX5_isSound 34 = .ok (.getfield 23, 3) := by decide +kernel
theorem dX5_isSound_37 : decode cX5_isSound 37 = .ok (.iload_n 2, 1) := by decide +kernel
theorem dX5_isSound_38 : decode cX5_isSound 38 = .ok (.iaload, 1) := by decide +kernel
theorem dX5_isSound_39 : decode cX5_isSound 39 = .ok (.aload_n 0, 1) := by decide +kernel
theorem dX5_isSound_40 : decode cX5_isSound 40 = .ok (.getfield 26, 3) := by decide +kernel
theorem dX5_isSound_43 : decode cX5_isSound 43 = .ok (.iload_n 2, 1) := by decide +kernel
theorem dX5_isSound_44 : decode cX5_isSound 44 = .ok (.iaload, 1) := by decide +kernel
theorem dX5_isSound_45 : decode cX5_isSound 45 = .ok (.if_icmp .gt 7, 3) := by decide +kernel
theorem dX5_isSound_48 : decode cX5_isSound 48 = .ok (.iconst 1, 1) := by decide +kernel
theorem dX5_isSound_49 : decode cX5_isSound 49 = .ok (.goto 4, 3) := by decide +kernel
theorem dX5_isSound_52 : decode cX5_isSound 52 = .ok (.iconst 0, 1) := by decide +kernel
theorem dX5_isSound_53 : decode cX5_isSound 53 = .ok (.istore_n 1, 1) := by decide +kernel
theorem dX5_isSound_54 : decode cX5_isSound 54 = .ok (.iinc 2 1, 3) := by decide +kernel
theorem dX5_isSound_57 : decode cX5_isSound 57 = .ok (.goto (-53), 3) := by decide +kernel
theorem dX5_isSound_60 : decode cX5_isSound 60 = .ok (.iload_n 1, 1) := by decide +kernel
theorem dX5_isSound_61 : decode cX5_isSound 61 = .ok (.ireturn, 1) := by decide +kernel
set_option maxRecDepth 20000 in
theorem ggX5_next_X5_at : GoodIn wsX5_next wsX5_at := goodIn_r _ [7, 8, 9, 10, 11, 21, 22, 23, 24, 25, 26, 27, 28, 29, 30, 31, 32, 33, 34, 35, 36, 37, 38, 39, 40, 41, 42, 43, 44, 45] (by decide +kernel) (by decide +kernel)
set_option maxRecDepth 20000 in
theorem gX5_next_X5_at : GoodIn wsX5_next (wsV RX5 112 RX5 yX5_at wsX5_at) := goodIn_app (goodIn_of _ (by decide +kernel)) ggX5_next_X5_at
set_option maxRecDepth 20000 in
theorem ggX5_next_X5_reason : GoodIn wsX5_next wsX5_reason := goodIn_r _ [15, 10, 16, 9, 17, 1, 18, 19, 20, 21, 22, 23, 24, 25, 26, 27, 28, 29, 30, 31, 32, 33, 34, 35, 36, 37, 38, 39, 40, 41, 42, 43, 44, 45] (by decide +kernel) (by decide +kernel)
set_option maxRecDepth 20000 in
theorem gX5_next_X5_reason : GoodIn wsX5_next (wsV RX5 116 RX5 yX5_reason wsX5_reason) := goodIn_app (goodIn_of _ (by decide +kernel)) ggX5_next_X5_reason
theorem dX5_next_0 : decode cX5_next 0 = .ok (.aload_n 0, 1) := by decide +kernel
theorem dX5_next_1 : decode cX5_next 1 = .ok (.iload_n 1, 1) := by decide +kernel
theorem dX5_next_2 : decode cX5_next 2 = .ok (.iconst 0, 1) := by decide +kernel
theorem dX5_next_3 : decode cX5_next 3 = .ok (.invokevirtual 112, 3) := by decide +kernel
theorem dX5_next_6 : decode cX5_next 6 = .ok (.istore_n 2, 1) := by decide +kernel
theorem dX5_next_7 : decode cX5_next 7 = .ok (.iload_n 2, 1) := by decide +kernel
theorem dX5_next_8 : decode cX5_next 8 = .ok (.iconst (-1), 1) := by decide +kernel
theorem dX5_next_9 : decode cX5_next 9 = .ok (.if_icmp .eq 11, 3) := by decide +kernel
theorem dX5_next_12 : decode cX5_next 12 = .ok (.aload_n 0, 1) := by decide +kernel
theorem dX5_next_13 : decode cX5_next 13 = .ok (.iload_n 2, 1) := by decide +kernel
theorem dX5_next_14 : decode cX5_next 14 = .ok (.invokevirtual 116, 3) := by decide +kernel
theorem dX5_next_17 : decode cX5_next 17 = .ok (.ifCond .ne 5, 3) := by decide +kernel
theorem dX5_next_20 : decode cX5_next 20 = .ok (.iload_n 2, 1) := by decide +kernel
theorem dX5_next_21 : decode cX5_next 21 = .ok (.ireturn, 1) := by decide +kernel
theorem dX5_next_22 : decode cX5_next 22 = .ok (.iconst 1, 1) := by decide +kernel
theorem dX5_next_23 : decode cX5_next 23 = .ok (.istore_n 3, 1) := by decide +kernel
theorem dX5_next_24 : decode cX5_next 24 = .ok (.aload_n 0, 1) := by decide +kernel
theorem dX5_next_25 : decode cX5_next 25 = .ok (.iload_n 1, 1) := by decide +kernel
theorem dX5_next_26 : decode cX5_next 26 = .ok (.iload_n 3, 1) := by decide +kernel
theorem dX5_next_27 : decode cX5_next 27 = .ok (.invokevirtual 112, 3) := by decide +kernel
theorem dX5_next_30 : decode cX5_next 30 = .ok (.istore 4, 2) := by decide +kernel
theorem dX5_next_32 : decode cX5_next 32 = .ok (.iload 4, 2) := by decide +kernel
theorem dX5_next_34 : decode cX5_next 34 = .ok (.iconst (-1), 1) := by decide +kernel
theorem dX5_next_35 : decode cX5_next 35 = .ok (.if_icmp .eq 40, 3) := by decide +kernel
theorem dX5_next_38 : decode cX5_next 38 = .ok (.aload_n 0, 1) := by decide +kernel
theorem dX5_next_39 : decode cX5_next 39 = .ok (.getfield 35, 3) := by decide +kernel
theorem dX5_next_42 : decode cX5_next 42 = .ok (.iload 4, 2) := by decide +kernel
theorem dX5_next_44 : decode cX5_next 44 = .ok (.iaload, 1) := by decide +kernel
theorem dX5_next_45 : decode cX5_next 45 = .ok (.aload_n 0, 1) := by decide +kernel
theorem dX5_next_46 : decode cX5_next 46 = .ok (.getfield 44, 3) := by decide +kernel
theorem dX5_next_49 : decode cX5_next 49 = .ok (.if_icmp .gt 12, 3) := by decide +kernel
theorem dX5_next_52 : decode cX5_next 52 = .ok (.aload_n 0, 1) := by decide +kernel
theorem dX5_next_53 : decode cX5_next 53 = .ok (.iload 4, 2) := by decide +kernel
theorem dX5_next_55 : decode cX5_next 55 = .ok (.invokevirtual 116, 3) := by decide +kernel
theorem dX5_next_58 : decode cX5_next 58 = .ok (.ifCond .eq 17, 3) := by decide +kernel
theorem dX5_next_61 : decode cX5_next 61 = .ok (.iinc 3 1, 3) := by decide +kernel
theorem dX5_next_64 : decode cX5_next 64 = .ok (.aload_n 0, 1) := by decide +kernel
theorem dX5_next_65 : decode cX5_next 65 = .ok (.iload_n 1, 1) := by decide +kernel
theorem dX5_next_66 : decode cX5_next 66 = .ok (.iload_n 3, 1) := by decide +kernel
theorem dX5_next_67 : decode cX5_next 67 = .ok (.invokevirtual 112, 3) := by decide +kernel
theorem dX5_next_70 : decode cX5_next 70 = .ok (.istore 4, 2) := by decide +kernel
theorem dX5_next_72 : decode cX5_next 72 = .ok (.goto (-40), 3) := by decide +kernel
theorem dX5_next_75 : decode cX5_next 75 = .ok (.iload 4, 2) := by decide +kernel
theorem dX5_next_77 : decode cX5_next 77 = .ok (.ireturn, 1) := by decide +kernel
set_option maxRecDepth 20000 in
theorem ggX5_goTogether_X5_at : GoodIn wsX5_goTogether wsX5_at := goodIn_r _ [6, 7, 8, 9, 10, 37, 38, 39, 40, 41, 42, 43, 44, 45, 46, 47, 48, 49, 50, 51, 52, 53, 54, 55, 56, 57, 58, 59, 60, 61] (by decide +kernel) (by decide +kernel)
set_option maxRecDepth 20000 in
theorem gX5_goTogether_X5_at : GoodIn wsX5_goTogether (wsV RX5 112 RX5 yX5_at wsX5_at) := goodIn_app (goodIn_of _ (by decide +kernel)) ggX5_goTogether_X5_at
set_option maxRecDepth 20000 in
theorem ggX5_goTogether_X5_isSet : GoodIn wsX5_goTogether wsX5_isSet := goodIn_r _ [14, 1, 15, 16, 17, 5, 18, 2, 3, 4, 6, 7, 8, 9, 10, 19, 20, 21, 22, 23, 24, 25, 26, 27, 28, 29, 30, 31, 32, 37, 38, 39, 40, 41, 42, 43, 44, 45, 46, 47, 48, 49, 50, 51, 52, 53, 54, 55, 56, 57, 58, 59, 60, 61] (by decide +kernel) (by decide +kernel)
set_option maxRecDepth 20000 in
theorem gX5_goTogether_X5_isSet : GoodIn wsX5_goTogether (wsV RX5 119 RX5 yX5_isSet wsX5_isSet) := goodIn_app (goodIn_of _ (by decide +kernel)) ggX5_goTogether_X5_isSet
set_option maxRecDepth 20000 in
theorem ggX5_goTogether_X5_firsts : GoodIn wsX5_goTogether wsX5_firsts := goodIn_r _ [18, 1, 2, 3, 4, 5, 6, 7, 8, 9, 10, 37, 38, 39, 40, 41, 42, 43, 44, 45, 46, 47, 48, 49, 50, 51, 52, 53, 54, 55, 56, 57, 58, 59, 60, 61] (by decide +kernel) (by decide +kernel)
set_option maxRecDepth 20000 in
theorem gX5_goTogether_X5_firsts : GoodIn wsX5_goTogether (wsV RX5 122 RX5 yX5_firsts wsX5_firsts) := goodIn_app (goodIn_of _ (by decide +kernel)) ggX5_goTogether_X5_firsts
set_option maxRecDepth 20000 in
theorem ggX5_goTogether_X5_goes : GoodIn wsX5_goTogether wsX5_goes := goodIn_r _ [36, 8, 19, 20, 21, 5, 22, 23, 24, 9, 25, 26, 37, 38, 39, 40, 41, 42, 43, 44, 45, 46, 47, 48, 49, 50, 51, 52, 53, 54, 55, 56, 57, 58, 59, 60, 61] (by decide +kernel) (by decide +kernel)
set_option maxRecDepth 20000 in
theorem gX5_goTogether_X5_goes : GoodIn wsX5_goTogether (wsV RX5 126 RX5 yX5_goes wsX5_goes) := goodIn_app (goodIn_of _ (by decide +kernel)) ggX5_goTogether_X5_goes
theorem dX5_goTogether_0 : decode cX5_goTogether 0 = .ok (.iconst 0, 1) := by decide +kernel
theorem dX5_goTogether_1 : decode cX5_goTogether 1 = .ok (.istore_n 1, 1) := by decide +kernel
theorem dX5_goTogether_2 : decode cX5_goTogether 2 = .ok (.iconst 0, 1) := by decide +kernel
theorem dX5_goTogether_3 : decode cX5_goTogether 3 = .ok (.istore_n 2, 1) := by decide +kernel
theorem dX5_goTogether_4 : decode cX5_goTogether 4 = .ok (.iconst 1, 1) := by decide +kernel
theorem dX5_goTogether_5 : decode cX5_goTogether 5 = .ok (.istore_n 3, 1) := by decide +kernel
theorem dX5_goTogether_6 : decode cX5_goTogether 6 = .ok (.iload_n 3, 1) := by decide +kernel
theorem dX5_goTogether_7 : decode cX5_goTogether 7 = .ok (.bipush 32, 2) := by decide +kernel
theorem dX5_goTogether_9 : decode cX5_goTogether 9 = .ok (.if_icmp .ge 114, 3) := by decide +kernel
theorem dX5_goTogether_12 : decode cX5_goTogether 12 = .ok (.iconst 0, 1) := by decide +kernel
theorem dX5_goTogether_13 : decode cX5_goTogether 13 = .ok (.istore 4, 2) := by decide +kernel
theorem dX5_goTogether_15 : decode cX5_goTogether 15 = .ok (.iconst 1, 1) := by decide +kernel
theorem dX5_goTogether_16 : decode cX5_goTogether 16 = .ok (.istore 5, 2) := by decide +kernel
theorem dX5_goTogether_18 : decode cX5_goTogether 18 = .ok (.iconst 0, 1) := by decide +kernel
theorem dX5_goTogether_19 : decode cX5_goTogether 19 = .ok (.istore 6, 2) := by decide +kernel
theorem dX5_goTogether_21 : decode cX5_goTogether 21 = .ok (.iload 6, 2) := by decide +kernel
theorem dX5_goTogether_23 : decode cX5_goTogether 23 = .ok (.iconst 5, 1) := by decide +kernel
theorem dX5_goTogether_24 : decode cX5_goTogether 24 = .ok (.if_icmp .ge 69, 3) := by decide +kernel
theorem dX5_goTogether_27 : decode cX5_goTogether 27 = .ok (.iload_n 3, 1) := by decide +kernel
theorem dX5_goTogether_28 : decode cX5_goTogether 28 = .ok (.iload 6, 2) := by decide +kernel
theorem dX5_goTogether_30 : decode cX5_goTogether 30 = .ok (.ishr, 1) := by decide +kernel
theorem dX5_goTogether_31 : decode cX5_goTogether 31 = .ok (.iconst 1, 1) := by decide +kernel
theorem dX5_goTogether_32 : decode cX5_goTogether 32 = .ok (.iand, 1) := by decide +kernel
theorem dX5_goTogether_33 : decode cX5_goTogether 33 = .ok (.iconst 1, 1) := by decide +kernel
theorem dX5_goTogether_34 : decode cX5_goTogether 34 = .ok (.if_icmp .ne 7, 3) := by decide +kernel
theorem dX5_goTogether_37 : decode cX5_goTogether 37 = .ok (.iconst 1, 1) := by decide +kernel
theorem dX5_goTogether_38 : decode cX5_goTogether 38 = .ok (.goto 4, 3) := by decide +kernel
theorem dX5_goTogether_41 : decode cX5_goTogether 41 = .ok (.iconst 0, 1) := by decide +kernel
theorem dX5_goTogether_42 : decode cX5_goTogether 42 = .ok (.istore 7, 2) := by decide +kernel
theorem dX5_goTogether_44 : decode cX5_goTogether 44 = .ok (.iload 4, 2) := by decide +kernel
theorem dX5_goTogether_46 : decode cX5_goTogether 46 = .ok (.iload 7, 2) := by decide +kernel
theorem dX5_goTogether_48 : decode cX5_goTogether 48 = .ok (.ifCond .eq 7, 3) := by decide +kernel
theorem dX5_goTogether_51 : decode cX5_goTogether 51 = .ok (.iconst 1, 1) := by decide +kernel
theorem dX5_goTogether_52 : decode cX5_goTogether 52 = .ok (.goto 4, 3) := by decide +kernel
theorem dX5_goTogether_55 : decode cX5_goTogether 55 = .ok (.iconst 0, 1) := by decide +kernel
theorem dX5_goTogether_56 : decode cX5_goTogether 56 = .ok (.iadd, 1) := by decide +kernel
theorem dX5_goTogether_57 : decode cX5_goTogether 57 = .ok (.istore 4, 2) := by decide +kernel
theorem dX5_goTogether_59 : decode cX5_goTogether 59 = .ok (.iload 5, 2) := by decide +kernel
theorem dX5_goTogether_61 : decode cX5_goTogether 61 = .ok (.ifCond .eq 23, 3) := by decide +kernel
theorem dX5_goTogether_64 : decode cX5_goTogether 64 = .ok (.iload 7, 2) := by decide +kernel
theorem dX5_goTogether_66 : decode cX5_goTogether 66 = .ok (.ifCond .eq 14, 3) := by decide +kernel
theorem dX5_goTogether_69 : decode cX5_goTogether 69 = .ok (.aload_n 0, 1) := by decide +kernel
theorem dX5_goTogether_70 : decode cX5_goTogether 70 = .ok (.iload 6, 2) := by decide +kernel
theorem dX5_goTogether_72 : decode cX5_goTogether 72 = .ok (.iconst 0, 1) := by decide +kernel
theorem dX5_goTogether_73 : decode cX5_goTogether 73 = .ok (.invokevirtual 112, 3) := by decide +kernel
theorem dX5_goTogether_76 : decode cX5_goTogether 76 = .ok (.iconst (-1), 1) := by decide +kernel
theorem dX5_goTogether_77 : decode cX5_goTogether 77 = .ok (.if_icmp .eq 7, 3) := by decide +kernel
theorem dX5_goTogether_80 : decode cX5_goTogether 80 = .ok (.iconst 1, 1) := by decide +kernel
theorem dX5_goTogether_81 : decode cX5_goTogether 81 = .ok (.goto 4, 3) := by decide +kernel
theorem dX5_goTogether_84 : decode cX5_goTogether 84 = .ok (.iconst 0, 1) := by decide +kernel
theorem dX5_goTogether_85 : decode cX5_goTogether 85 = .ok (.istore 5, 2) := by decide +kernel
theorem dX5_goTogether_87 : decode cX5_goTogether 87 = .ok (.iinc 6 1, 3) := by decide +kernel
theorem dX5_goTogether_90 : decode cX5_goTogether 90 = .ok (.goto (-69), 3) := by decide +kernel
theorem dX5_goTogether_93 : decode cX5_goTogether 93 = .ok (.iload 5, 2) := by decide +kernel
theorem dX5_goTogether_95 : decode cX5_goTogether 95 = .ok (.ifCond .eq 22, 3) := by decide +kernel
theorem dX5_goTogether_98 : decode cX5_goTogether 98 = .ok (.iload 4, 2) := by decide +kernel
theorem dX5_goTogether_100 : decode cX5_goTogether 100 = .ok (.iload_n 2, 1) := by decide +kernel
theorem dX5_goTogether_101 : decode cX5_goTogether 101 = .ok (.if_icmp .le 16, 3) := by decide +kernel
theorem dX5_goTogether_104 : decode cX5_goTogether 104 = .ok (.aload_n 0, 1) := by decide +kernel
theorem dX5_goTogether_105 : decode cX5_goTogether 105 = .ok (.iload_n 3, 1) := by decide +kernel
theorem dX5_goTogether_106 : decode cX5_goTogether 106 = .ok (.invokevirtual 119, 3) := by decide +kernel
theorem dX5_goTogether_109 : decode cX5_goTogether 109 = .ok (.ifCond .eq 8, 3) := by decide +kernel
theorem dX5_goTogether_112 : decode cX5_goTogether 112 = .ok (.iload_n 3, 1) := by decide +kernel
theorem dX5_goTogether_113 : decode cX5_goTogether 113 = .ok (.istore_n 1, 1) := by decide +kernel
theorem dX5_goTogether_114 : decode cX5_goTogether 114 = .ok (.iload 4, 2) := by decide +kernel
theorem dX5_goTogether_116 : decode cX5_goTogether 116 = .ok (.istore_n 2, 1) := by decide +kernel
theorem dX5_goTogether_117 : decode cX5_goTogether 117 = .ok (.iinc 3 1, 3) := by decide +kernel
theorem dX5_goTogether_120 : decode cX5_goTogether 120 = .ok (.goto (-114), 3) := by decide +kernel
theorem dX5_goTogether_123 : decode cX5_goTogether 123 = .ok (.aload_n 0, 1) := by decide +kernel
theorem dX5_goTogether_124 : decode cX5_goTogether 124 = .ok (.iload_n 1, 1) := by decide +kernel
theorem dX5_goTogether_125 : decode cX5_goTogether 125 = .ok (.invokevirtual 122, 3) := by decide +kernel
theorem dX5_goTogether_128 : decode cX5_goTogether 128 = .ok (.iconst 0, 1) := by decide +kernel
theorem dX5_goTogether_129 : decode cX5_goTogether 129 = .ok (.istore_n 3, 1) := by decide +kernel
theorem dX5_goTogether_130 : decode cX5_goTogether 130 = .ok (.iload_n 3, 1) := by decide +kernel
theorem dX5_goTogether_131 : decode cX5_goTogether 131 = .ok (.iconst 5, 1) := by decide +kernel
theorem dX5_goTogether_132 : decode cX5_goTogether 132 = .ok (.if_icmp .ge 29, 3) := by decide +kernel
theorem dX5_goTogether_135 : decode cX5_goTogether 135 = .ok (.aload_n 0, 1) := by decide +kernel
theorem dX5_goTogether_136 : decode cX5_goTogether 136 = .ok (.getfield 48, 3) := by decide +kernel
theorem dX5_goTogether_139 : decode cX5_goTogether 139 = .ok (.iload_n 3, 1) := by decide +kernel
theorem dX5_goTogether_140 : decode cX5_goTogether 140 = .ok (.iaload, 1) := by decide +kernel
theorem dX5_goTogether_141 : decode cX5_goTogether 141 = .ok (.iconst (-1), 1) := by decide +kernel
theorem dX5_goTogether_142 : decode cX5_goTogether 142 = .ok (.if_icmp .eq 13, 3) := by decide +kernel
theorem dX5_goTogether_145 : decode cX5_goTogether 145 = .ok (.aload_n 0, 1) := by decide +kernel
theorem dX5_goTogether_146 : decode cX5_goTogether 146 = .ok (.aload_n 0, 1) := by decide +kernel
theorem dX5_goTogether_147 : decode cX5_goTogether 147 = .ok (.getfield 48, 3) := by decide +kernel
theorem dX5_goTogether_150 : decode cX5_goTogether 150 = .ok (.iload_n 3, 1) := by decide +kernel
theorem dX5_goTogether_151 : decode cX5_goTogether 151 = .ok (.iaload, 1) := by decide +kernel
theorem dX5_goTogether_152 : decode cX5_goTogether 152 = .ok (.invokevirtual 126, 3) := by decide +kernel
theorem dX5_goTogether_155 : decode cX5_goTogether 155 = .ok (.iinc 3 1, 3) := by decide +kernel
theorem dX5_goTogether_158 : decode cX5_goTogether 158 = .ok (.goto (-28), 3) := by decide +kernel
theorem dX5_goTogether_161 : decode cX5_goTogether 161 = .ok (.iload_n 2, 1) := by decide +kernel
theorem dX5_goTogether_162 : decode cX5_goTogether 162 = .ok (.ireturn, 1) := by decide +kernel
set_option maxRecDepth 20000 in
theorem ggX5_firsts_X5_at : GoodIn wsX5_firsts wsX5_at := goodIn_r _ [6, 7, 8, 9, 10, 11, 12, 13, 14, 15, 16, 17, 18, 19, 20, 21, 22, 23, 24, 25, 26, 27, 28, 29, 30, 31, 32, 33, 34, 35] (by decide +kernel) (by decide +kernel)
set_option maxRecDepth 20000 in
theorem gX5_firsts_X5_at : GoodIn wsX5_firsts (wsV RX5 112 RX5 yX5_at wsX5_at) := goodIn_app (goodIn_of _ (by decide +kernel)) ggX5_firsts_X5_at
theorem dX5_firsts_0 : decode cX5_firsts 0 = .ok (.iconst 0, 1) := by decide +kernel
theorem dX5_firsts_1 : decode cX5_firsts 1 = .ok (.istore_n 2, 1) := by decide +kernel
theorem dX5_firsts_2 : decode cX5_firsts 2 = .ok (.iload_n 2, 1) := by decide +kernel
theorem dX5_firsts_3 : decode cX5_firsts 3 = .ok (.iconst 5, 1) := by decide +kernel
theorem dX5_firsts_4 : decode cX5_firsts 4 = .ok (.if_icmp .ge 34, 3) := by decide +kernel
theorem dX5_firsts_7 : decode cX5_firsts 7 = .ok (.aload_n 0, 1) := by decide +kernel
theorem dX5_firsts_8 : decode cX5_firsts 8 = .ok (.getfield 48, 3) := by decide +kernel
theorem dX5_firsts_11 : decode cX5_firsts 11 = .ok (.iload_n 2, 1) := by decide +kernel
theorem dX5_firsts_12 : decode cX5_firsts 12 = .ok (.iload_n 1, 1) := by decide +kernel
theorem dX5_firsts_13 : decode cX5_firsts 13 = .ok (.iload_n 2, 1) := by decide +kernel
theorem dX5_firsts_14 : decode cX5_firsts 14 = .ok (.ishr, 1) := by decide +kernel
theorem dX5_firsts_15 : decode cX5_firsts 15 = .ok (.iconst 1, 1) := by decide +kernel
theorem dX5_firsts_16 : decode cX5_firsts 16 = .ok (.iand, 1) := by decide +kernel
theorem dX5_firsts_17 : decode cX5_firsts 17 = .ok (.iconst 1, 1) := by decide +kernel
theorem dX5_firsts_18 : decode cX5_firsts 18 = .ok (.if_icmp .ne 12, 3) := by decide +kernel
theorem dX5_firsts_21 : decode cX5_firsts 21 = .ok (.aload_n 0, 1) := by decide +kernel
theorem dX5_firsts_22 : decode cX5_firsts 22 = .ok (.iload_n 2, 1) := by decide +kernel
theorem dX5_firsts_23 : decode cX5_firsts 23 = .ok (.iconst 0, 1) := by decide +kernel
theorem dX5_firsts_24 : decode cX5_firsts 24 = .ok (.invokevirtual 112, 3) := by decide +kernel
theorem dX5_firsts_27 : decode cX5_firsts 27 = .ok (.goto 4, 3) := by decide +kernel
theorem dX5_firsts_30 : decode cX5_firsts 30 = .ok (.iconst (-1), 1) := by decide +kernel
theorem dX5_firsts_31 : decode cX5_firsts 31 = .ok (.iastore, 1) := by decide +kernel
theorem dX5_firsts_32 : decode cX5_firsts 32 = .ok (.iinc 2 1, 3) := by decide +kernel
theorem dX5_firsts_35 : decode cX5_firsts 35 = .ok (.goto (-33), 3) := by decide +kernel
theorem dX5_firsts_38 : decode cX5_firsts 38 = .ok (.return_, 1) := by decide +kernel
set_option maxRecDepth 20000 in
theorem ggX5_isSet_X5_firsts : GoodIn wsX5_isSet wsX5_firsts := goodIn_r _ [6, 1, 7, 8, 9, 5, 10, 11, 12, 13, 14, 29, 30, 31, 32, 33, 34, 35, 36, 37, 38, 39, 40, 41, 42, 43, 44, 45, 46, 47, 48, 49, 50, 51, 52, 53] (by decide +kernel) (by decide +kernel)
set_option maxRecDepth 20000 in
theorem gX5_isSet_X5_firsts : GoodIn wsX5_isSet (wsV RX5 122 RX5 yX5_firsts wsX5_firsts) := goodIn_app (goodIn_of _ (by decide +kernel)) ggX5_isSet_X5_firsts
set_option maxRecDepth 20000 in
theorem ggX5_isSet_X5_moves : GoodIn wsX5_isSet wsX5_moves := goodIn_r _ [18, 19, 20, 13, 21, 22, 29, 30, 31, 32, 33, 34, 35, 36, 37, 38, 39, 40, 41, 42, 43, 44, 45, 46, 47, 48, 49, 50, 51, 52, 53] (by decide +kernel) (by decide +kernel)
set_option maxRecDepth 20000 in
theorem gX5_isSet_X5_moves : GoodIn wsX5_isSet (wsV RX5 108 RX5 yX5_moves wsX5_moves) := goodIn_app (goodIn_of _ (by decide +kernel)) ggX5_isSet_X5_moves
set_option maxRecDepth 20000 in
theorem ggX5_isSet_X5_isSound : GoodIn wsX5_isSet wsX5_isSound := goodIn_r _ [26, 20, 27, 22, 28, 29, 30, 31, 32, 33, 34, 35, 36, 37, 38, 39, 40, 41, 42, 43, 44, 45, 46, 47, 48, 49, 50, 51, 52, 53] (by decide +kernel) (by decide +kernel)
set_option maxRecDepth 20000 in
theorem gX5_isSet_X5_isSound : GoodIn wsX5_isSet (wsV RX5 129 RX5 yX5_isSound wsX5_isSound) := goodIn_app (goodIn_of _ (by decide +kernel)) ggX5_isSet_X5_isSound
theorem dX5_isSet_0 : decode cX5_isSet 0 = .ok (.aload_n 0, 1) := by decide +kernel
theorem dX5_isSet_1 : decode cX5_isSet 1 = .ok (.iload_n 1, 1) := by decide +kernel
theorem dX5_isSet_2 : decode cX5_isSet 2 = .ok (.invokevirtual 122, 3) := by decide +kernel
theorem dX5_isSet_5 : decode cX5_isSet 5 = .ok (.iconst 0, 1) := by decide +kernel
theorem dX5_isSet_6 : decode cX5_isSet 6 = .ok (.istore_n 2, 1) := by decide +kernel
theorem dX5_isSet_7 : decode cX5_isSet 7 = .ok (.iload_n 2, 1) := by decide +kernel
theorem dX5_isSet_8 : decode cX5_isSet 8 = .ok (.iconst 5, 1) := by decide +kernel
theorem dX5_isSet_9 : decode cX5_isSet 9 = .ok (.if_icmp .ge 30, 3) := by decide +kernel
theorem dX5_isSet_12 : decode cX5_isSet 12 = .ok (.aload_n 0, 1) := by decide +kernel
theorem dX5_isSet_13 : decode cX5_isSet 13 = .ok (.getfield 48, 3) := by decide +kernel
theorem dX5_isSet_16 : decode cX5_isSet 16 = .ok (.iload_n 2, 1) := by decide +kernel
theorem dX5_isSet_17 : decode cX5_isSet 17 = .ok (.iaload, 1) := by decide +kernel
theorem dX5_isSet_18 : decode cX5_isSet 18 = .ok (.iconst (-1), 1) := by decide +kernel
theorem dX5_isSet_19 : decode cX5_isSet 19 = .ok (.if_icmp .eq 14, 3) := by decide +kernel
theorem dX5_isSet_22 : decode cX5_isSet 22 = .ok (.aload_n 0, 1) := by decide +kernel
theorem dX5_isSet_23 : decode cX5_isSet 23 = .ok (.aload_n 0, 1) := by decide +kernel
theorem dX5_isSet_24 : decode cX5_isSet 24 = .ok (.getfield 48, 3) := by decide +kernel
theorem dX5_isSet_27 : decode cX5_isSet 27 = .ok (.iload_n 2, 1) := by decide +kernel
theorem dX5_isSet_28 : decode cX5_isSet 28 = .ok (.iaload, 1) := by decide +kernel
theorem dX5_isSet_29 : decode cX5_isSet 29 = .ok (.iconst 1, 1) := by decide +kernel
theorem dX5_isSet_30 : decode cX5_isSet 30 = .ok (.invokevirtual 108, 3) := by decide +kernel
theorem dX5_isSet_33 : decode cX5_isSet 33 = .ok (.iinc 2 1, 3) := by decide +kernel
theorem dX5_isSet_36 : decode cX5_isSet 36 = .ok (.goto (-29), 3) := by decide +kernel
theorem dX5_isSet_39 : decode cX5_isSet 39 = .ok (.aload_n 0, 1) := by decide +kernel
theorem dX5_isSet_40 : decode cX5_isSet 40 = .ok (.invokevirtual 129, 3) := by decide +kernel
theorem dX5_isSet_43 : decode cX5_isSet 43 = .ok (.istore_n 2, 1) := by decide +kernel
theorem dX5_isSet_44 : decode cX5_isSet 44 = .ok (.iconst 0, 1) := by decide +kernel
theorem dX5_isSet_45 : decode cX5_isSet 45 = .ok (.istore_n 3, 1) := by decide +kernel
theorem dX5_isSet_46 : decode cX5_isSet 46 = .ok (.iload_n 3, 1) := by decide +kernel
theorem dX5_isSet_47 : decode cX5_isSet 47 = .ok (.iconst 5, 1) := by decide +kernel
theorem dX5_isSet_48 : decode cX5_isSet 48 = .ok (.if_icmp .ge 30, 3) := by decide +kernel
theorem dX5_isSet_51 : decode cX5_isSet 51 = .ok (.aload_n 0, 1) := by decide +kernel
theorem dX5_isSet_52 : decode cX5_isSet 52 = .ok (.getfield 48, 3) := by decide +kernel
theorem dX5_isSet_55 : decode cX5_isSet 55 = .ok (.iload_n 3, 1) := by decide +kernel
theorem dX5_isSet_56 : decode cX5_isSet 56 = .ok (.iaload, 1) := by decide +kernel
theorem dX5_isSet_57 : decode cX5_isSet 57 = .ok (.iconst (-1), 1) := by decide +kernel
theorem dX5_isSet_58 : decode cX5_isSet 58 = .ok (.if_icmp .eq 14, 3) := by decide +kernel
theorem dX5_isSet_61 : decode cX5_isSet 61 = .ok (.aload_n 0, 1) := by decide +kernel
theorem dX5_isSet_62 : decode cX5_isSet 62 = .ok (.aload_n 0, 1) := by decide +kernel
theorem dX5_isSet_63 : decode cX5_isSet 63 = .ok (.getfield 48, 3) := by decide +kernel
theorem dX5_isSet_66 : decode cX5_isSet 66 = .ok (.iload_n 3, 1) := by decide +kernel
theorem dX5_isSet_67 : decode cX5_isSet 67 = .ok (.iaload, 1) := by decide +kernel
theorem dX5_isSet_68 : decode cX5_isSet 68 = .ok (.iconst (-1), 1) := by decide +kernel
theorem dX5_isSet_69 : decode cX5_isSet 69 = .ok (.invokevirtual 108, 3) := by decide +kernel
theorem dX5_isSet_72 : decode cX5_isSet 72 = .ok (.iinc 3 1, 3) := by decide +kernel
theorem dX5_isSet_75 : decode cX5_isSet 75 = .ok (.goto (-29), 3) := by decide +kernel
theorem dX5_isSet_78 : decode cX5_isSet 78 = .ok (.iload_n 2, 1) := by decide +kernel
theorem dX5_isSet_79 : decode cX5_isSet 79 = .ok (.ireturn, 1) := by decide +kernel
set_option maxRecDepth 20000 in
theorem ggX5_run_X5_next : GoodIn wsX5_run wsX5_next := goodIn_r _ [6, 7, 8, 9, 10, 11, 5, 12, 13, 14, 15, 16, 17, 18, 19, 20, 21, 22, 23, 24, 25, 51, 52, 53, 54, 55, 56, 57, 58, 59, 60, 61, 62, 63, 64, 65, 66, 67, 68, 69, 70, 71, 72, 73, 74, 75] (by decide +kernel) (by decide +kernel)
set_option maxRecDepth 20000 in
theorem gX5_run_X5_next : GoodIn wsX5_run (wsV RX5 133 RX5 yX5_next wsX5_next) := goodIn_app (goodIn_of _ (by decide +kernel)) ggX5_run_X5_next
set_option maxRecDepth 20000 in
theorem ggX5_run_X5_goes : GoodIn wsX5_run wsX5_goes := goodIn_r _ [29, 14, 30, 31, 32, 5, 33, 7, 22, 15, 21, 24, 51, 52, 53, 54, 55, 56, 57, 58, 59, 60, 61, 62, 63, 64, 65, 66, 67, 68, 69, 70, 71, 72, 73, 74, 75] (by decide +kernel) (by decide +kernel)
set_option maxRecDepth 20000 in
theorem gX5_run_X5_goes : GoodIn wsX5_run (wsV RX5 126 RX5 yX5_goes wsX5_goes) := goodIn_app (goodIn_of _ (by decide +kernel)) ggX5_run_X5_goes
set_option maxRecDepth 20000 in
theorem ggX5_run_X5_goTogether : GoodIn wsX5_run wsX5_goTogether := goodIn_r _ [37, 38, 9, 10, 11, 5, 12, 13, 14, 15, 16, 39, 40, 41, 42, 43, 44, 45, 46, 30, 31, 32, 33, 7, 22, 21, 24, 47, 48, 49, 50, 23, 25, 26, 27, 28, 29, 51, 52, 53, 54, 55, 56, 57, 58, 59, 60, 61, 62, 63, 64, 65, 66, 67, 68, 69, 70, 71, 72, 73, 74, 75] (by decide +kernel) (by decide +kernel)
set_option maxRecDepth 20000 in
theorem gX5_run_X5_goTogether : GoodIn wsX5_run (wsV RX5 136 RX5 yX5_goTogether wsX5_goTogether) := goodIn_app (goodIn_of _ (by decide +kernel)) ggX5_run_X5_goTogether
theorem dX5_run_0 : decode cX5_run 0 = .ok (.aload_n 0, 1) := by decide +kernel
theorem dX5_run_1 : decode cX5_run 1 = .ok (.iconst 0, 1) := by decide +kernel
theorem dX5_run_2 : decode cX5_run 2 = .ok (.putfield 76, 3) := by decide +kernel
theorem dX5_run_5 : decode cX5_run 5 = .ok (.iconst 0, 1) := by decide +kernel
theorem dX5_run_6 : decode cX5_run 6 = .ok (.istore_n 1, 1) := by decide +kernel
theorem dX5_run_7 : decode cX5_run 7 = .ok (.iconst 1, 1) := by decide +kernel
theorem dX5_run_8 : decode cX5_run 8 = .ok (.istore_n 2, 1) := by decide +kernel
theorem dX5_run_9 : decode cX5_run 9 = .ok (.iload_n 2, 1) := by decide +kernel
theorem dX5_run_10 : decode cX5_run 10 = .ok (.ifCond .eq 75, 3) := by decide +kernel
theorem dX5_run_13 : decode cX5_run 13 = .ok (.iconst 0, 1) := by decide +kernel
theorem dX5_run_14 : decode cX5_run 14 = .ok (.istore_n 3, 1) := by decide +kernel
theorem dX5_run_15 : decode cX5_run 15 = .ok (.iconst 0, 1) := by decide +kernel
theorem dX5_run_16 : decode cX5_run 16 = .ok (.istore 4, 2) := by decide +kernel
theorem dX5_run_18 : decode cX5_run 18 = .ok (.iload 4, 2) := by decide +kernel
theorem dX5_run_20 : decode cX5_run 20 = .ok (.iconst 5, 1) := by decide +kernel
theorem dX5_run_21 : decode cX5_run 21 = .ok (.if_icmp .ge 32, 3) := by decide +kernel
theorem dX5_run_24 : decode cX5_run 24 = .ok (.aload_n 0, 1) := by decide +kernel
theorem dX5_run_25 : decode cX5_run 25 = .ok (.iload 4, 2) := by decide +kernel
theorem dX5_run_27 : decode cX5_run 27 = .ok (.invokevirtual 133, 3) := by decide +kernel
theorem dX5_run_30 : decode cX5_run 30 = .ok (.istore 5, 2) := by decide +kernel
theorem dX5_run_32 : decode cX5_run 32 = .ok (.iload 5, 2) := by decide +kernel
theorem dX5_run_34 : decode cX5_run 34 = .ok (.iconst (-1), 1) := by decide +kernel
theorem dX5_run_35 : decode cX5_run 35 = .ok (.if_icmp .eq 12, 3) := by decide +kernel
theorem dX5_run_38 : decode cX5_run 38 = .ok (.aload_n 0, 1) := by decide +kernel
theorem dX5_run_39 : decode cX5_run 39 = .ok (.iload 5, 2) := by decide +kernel
theorem dX5_run_41 : decode cX5_run 41 = .ok (.invokevirtual 126, 3) := by decide +kernel
theorem dX5_run_44 : decode cX5_run 44 = .ok (.iinc 3 1, 3) := by decide +kernel
theorem dX5_run_47 : decode cX5_run 47 = .ok (.iinc 4 1, 3) := by decide +kernel
theorem dX5_run_50 : decode cX5_run 50 = .ok (.goto (-32), 3) := by decide +kernel
theorem dX5_run_53 : decode cX5_run 53 = .ok (.iload_n 3, 1) := by decide +kernel
theorem dX5_run_54 : decode cX5_run 54 = .ok (.iload_n 3, 1) := by decide +kernel
theorem dX5_run_55 : decode cX5_run 55 = .ok (.ifCond .ne 10, 3) := by decide +kernel
theorem dX5_run_58 : decode cX5_run 58 = .ok (.aload_n 0, 1) := by decide +kernel
theorem dX5_run_59 : decode cX5_run 59 = .ok (.invokevirtual 136, 3) := by decide +kernel
theorem dX5_run_62 : decode cX5_run 62 = .ok (.goto 4, 3) := by decide +kernel
theorem dX5_run_65 : decode cX5_run 65 = .ok (.iconst 0, 1) := by decide +kernel
theorem dX5_run_66 : decode cX5_run 66 = .ok (.iadd, 1) := by decide +kernel
theorem dX5_run_67 : decode cX5_run 67 = .ok (.istore_n 3, 1) := by decide +kernel
theorem dX5_run_68 : decode cX5_run 68 = .ok (.iload_n 1, 1) := by decide +kernel
theorem dX5_run_69 : decode cX5_run 69 = .ok (.iload_n 3, 1) := by decide +kernel
theorem dX5_run_70 : decode cX5_run 70 = .ok (.iadd, 1) := by decide +kernel
theorem dX5_run_71 : decode cX5_run 71 = .ok (.istore_n 1, 1) := by decide +kernel
theorem dX5_run_72 : decode cX5_run 72 = .ok (.iload_n 3, 1) := by decide +kernel
theorem dX5_run_73 : decode cX5_run 73 = .ok (.ifCond .le 7, 3) := by decide +kernel
theorem dX5_run_76 : decode cX5_run 76 = .ok (.iconst 1, 1) := by decide +kernel
theorem dX5_run_77 : decode cX5_run 77 = .ok (.goto 4, 3) := by decide +kernel
theorem dX5_run_80 : decode cX5_run 80 = .ok (.iconst 0, 1) := by decide +kernel
theorem dX5_run_81 : decode cX5_run 81 = .ok (.istore_n 2, 1) := by decide +kernel
theorem dX5_run_82 : decode cX5_run 82 = .ok (.goto (-73), 3) := by decide +kernel
theorem dX5_run_85 : decode cX5_run 85 = .ok (.iload_n 1, 1) := by decide +kernel
theorem dX5_run_86 : decode cX5_run 86 = .ok (.ireturn, 1) := by decide +kernel
set_option maxRecDepth 20000 in
theorem ggX5_queued_X5_isBank : GoodIn wsX5_queued wsX5_isBank := goodIn_r _ [4] (by decide +kernel) (by decide +kernel)
set_option maxRecDepth 20000 in
theorem gX5_queued_X5_isBank : GoodIn wsX5_queued (va_wsS RX5 82 yX5_isBank wsX5_isBank) := goodIn_app (goodIn_of _ (by decide +kernel)) ggX5_queued_X5_isBank
set_option maxRecDepth 20000 in
theorem ggX5_queued_X5_asks : GoodIn wsX5_queued wsX5_asks := goodIn_r _ [8, 9, 18, 19, 20, 21, 22, 23, 24, 25, 26, 27, 28, 29, 30, 31, 32, 33, 34, 35, 36, 37, 38, 39, 40, 41, 42] (by decide +kernel) (by decide +kernel)
set_option maxRecDepth 20000 in
theorem gX5_queued_X5_asks : GoodIn wsX5_queued (wsV RX5 86 RX5 yX5_asks wsX5_asks) := goodIn_app (goodIn_of _ (by decide +kernel)) ggX5_queued_X5_asks
set_option maxRecDepth 20000 in
theorem ggX5_queued_X5_at : GoodIn wsX5_queued wsX5_at := goodIn_r _ [13, 14, 15, 16, 17, 18, 19, 20, 21, 22, 23, 24, 25, 26, 27, 28, 29, 30, 31, 32, 33, 34, 35, 36, 37, 38, 39, 40, 41, 42] (by decide +kernel) (by decide +kernel)
set_option maxRecDepth 20000 in
theorem gX5_queued_X5_at : GoodIn wsX5_queued (wsV RX5 112 RX5 yX5_at wsX5_at) := goodIn_app (goodIn_of _ (by decide +kernel)) ggX5_queued_X5_at
theorem dX5_queued_0 : decode cX5_queued 0 = .ok (.aload_n 0, 1) := by decide +kernel
theorem dX5_queued_1 : decode cX5_queued 1 = .ok (.iload_n 1, 1) := by decide +kernel
theorem dX5_queued_2 : decode cX5_queued 2 = .ok (.invokestatic 82, 3) := by decide +kernel
theorem dX5_queued_5 : decode cX5_queued 5 = .ok (.ifCond .eq 11, 3) := by decide +kernel
theorem dX5_queued_8 : decode cX5_queued 8 = .ok (.iload_n 2, 1) := by decide +kernel
theorem dX5_queued_9 : decode cX5_queued 9 = .ok (.ifCond .lt 7, 3) := by decide +kernel
theorem dX5_queued_12 : decode cX5_queued 12 = .ok (.iconst 1, 1) := by decide +kernel
theorem dX5_queued_13 : decode cX5_queued 13 = .ok (.goto 4, 3) := by decide +kernel
theorem dX5_queued_16 : decode cX5_queued 16 = .ok (.iconst 0, 1) := by decide +kernel
theorem dX5_queued_17 : decode cX5_queued 17 = .ok (.invokevirtual 86, 3) := by decide +kernel
theorem dX5_queued_20 : decode cX5_queued 20 = .ok (.ifCond .eq 12, 3) := by decide +kernel
theorem dX5_queued_23 : decode cX5_queued 23 = .ok (.aload_n 0, 1) := by decide +kernel
theorem dX5_queued_24 : decode cX5_queued 24 = .ok (.iload_n 1, 1) := by decide +kernel
theorem dX5_queued_25 : decode cX5_queued 25 = .ok (.iload_n 2, 1) := by decide +kernel
theorem dX5_queued_26 : decode cX5_queued 26 = .ok (.invokevirtual 112, 3) := by decide +kernel
theorem dX5_queued_29 : decode cX5_queued 29 = .ok (.goto 4, 3) := by decide +kernel
theorem dX5_queued_32 : decode cX5_queued 32 = .ok (.iconst 0, 1) := by decide +kernel
theorem dX5_queued_33 : decode cX5_queued 33 = .ok (.ireturn, 1) := by decide +kernel
set_option maxRecDepth 20000 in
theorem ggX5_why_X5_isPayment : GoodIn wsX5_why wsX5_isPayment := goodIn_r _ [5, 6, 24, 25, 26, 27, 28, 29, 30, 31, 32, 33, 34, 35, 36, 37, 38, 39, 40, 41, 42, 43, 44, 45, 46, 47, 48] (by decide +kernel) (by decide +kernel)
set_option maxRecDepth 20000 in
theorem gX5_why_X5_isPayment : GoodIn wsX5_why (wsV RX5 101 RX5 yX5_isPayment wsX5_isPayment) := goodIn_app (goodIn_of _ (by decide +kernel)) ggX5_why_X5_isPayment
set_option maxRecDepth 20000 in
theorem ggX5_why_X5_asks : GoodIn wsX5_why wsX5_asks := goodIn_r _ [10, 11, 24, 25, 26, 27, 28, 29, 30, 31, 32, 33, 34, 35, 36, 37, 38, 39, 40, 41, 42, 43, 44, 45, 46, 47, 48] (by decide +kernel) (by decide +kernel)
set_option maxRecDepth 20000 in
theorem gX5_why_X5_asks : GoodIn wsX5_why (wsV RX5 86 RX5 yX5_asks wsX5_asks) := goodIn_app (goodIn_of _ (by decide +kernel)) ggX5_why_X5_asks
set_option maxRecDepth 20000 in
theorem ggX5_why_X5_reason : GoodIn wsX5_why wsX5_reason := goodIn_r _ [15, 16, 17, 18, 19, 20, 21, 22, 23, 24, 25, 26, 27, 28, 29, 30, 31, 32, 33, 34, 35, 36, 37, 38, 39, 40, 41, 42, 43, 44, 45, 46, 47, 48] (by decide +kernel) (by decide +kernel)
set_option maxRecDepth 20000 in
theorem gX5_why_X5_reason : GoodIn wsX5_why (wsV RX5 116 RX5 yX5_reason wsX5_reason) := goodIn_app (goodIn_of _ (by decide +kernel)) ggX5_why_X5_reason
theorem dX5_why_0 : decode cX5_why 0 = .ok (.aload_n 0, 1) := by decide +kernel
theorem dX5_why_1 : decode cX5_why 1 = .ok (.aload_n 0, 1) := by decide +kernel
theorem dX5_why_2 : decode cX5_why 2 = .ok (.iload_n 1, 1) := by decide +kernel
theorem dX5_why_3 : decode cX5_why 3 = .ok (.invokevirtual 101, 3) := by decide +kernel
theorem dX5_why_6 : decode cX5_why 6 = .ok (.invokevirtual 86, 3) := by decide +kernel
theorem dX5_why_9 : decode cX5_why 9 = .ok (.ifCond .eq 11, 3) := by decide +kernel
theorem dX5_why_12 : decode cX5_why 12 = .ok (.aload_n 0, 1) := by decide +kernel
theorem dX5_why_13 : decode cX5_why 13 = .ok (.iload_n 1, 1) := by decide +kernel
theorem dX5_why_14 : decode cX5_why 14 = .ok (.invokevirtual 116, 3) := by decide +kernel
theorem dX5_why_17 : decode cX5_why 17 = .ok (.goto 4, 3) := by decide +kernel
theorem dX5_why_20 : decode cX5_why 20 = .ok (.iconst 0, 1) := by decide +kernel
theorem dX5_why_21 : decode cX5_why 21 = .ok (.ireturn, 1) := by decide +kernel
set_option maxRecDepth 20000 in
theorem ggX5_canAny_X5_waiting : GoodIn wsX5_canAny wsX5_waiting := goodIn_r _ [5, 6, 7, 32, 33, 34, 35, 36, 37, 38, 39, 40, 41, 42, 43, 44, 45, 46, 47, 48, 49, 50, 51, 52, 53, 54, 55, 56] (by decide +kernel) (by decide +kernel)
set_option maxRecDepth 20000 in
theorem gX5_canAny_X5_waiting : GoodIn wsX5_canAny (wsV RX5 104 RX5 yX5_waiting wsX5_waiting) := goodIn_app (goodIn_of _ (by decide +kernel)) ggX5_canAny_X5_waiting
set_option maxRecDepth 20000 in
theorem ggX5_canAny_X5_asks : GoodIn wsX5_canAny wsX5_asks := goodIn_r _ [11, 12, 32, 33, 34, 35, 36, 37, 38, 39, 40, 41, 42, 43, 44, 45, 46, 47, 48, 49, 50, 51, 52, 53, 54, 55, 56] (by decide +kernel) (by decide +kernel)
set_option maxRecDepth 20000 in
theorem gX5_canAny_X5_asks : GoodIn wsX5_canAny (wsV RX5 86 RX5 yX5_asks wsX5_asks) := goodIn_app (goodIn_of _ (by decide +kernel)) ggX5_canAny_X5_asks
set_option maxRecDepth 20000 in
theorem ggX5_canAny_X5_moveSet : GoodIn wsX5_canAny wsX5_moveSet := goodIn_r _ [16, 6, 7, 17, 18, 19, 4, 20, 21, 22, 23, 24, 25, 32, 33, 34, 35, 36, 37, 38, 39, 40, 41, 42, 43, 44, 45, 46, 47, 48, 49, 50, 51, 52, 53, 54, 55, 56] (by decide +kernel) (by decide +kernel)
set_option maxRecDepth 20000 in
theorem gX5_canAny_X5_moveSet : GoodIn wsX5_canAny (wsV RX5 139 RX5 yX5_moveSet wsX5_moveSet) := goodIn_app (goodIn_of _ (by decide +kernel)) ggX5_canAny_X5_moveSet
set_option maxRecDepth 20000 in
theorem ggX5_canAny_X5_isSound : GoodIn wsX5_canAny wsX5_isSound := goodIn_r _ [29, 22, 30, 25, 31, 32, 33, 34, 35, 36, 37, 38, 39, 40, 41, 42, 43, 44, 45, 46, 47, 48, 49, 50, 51, 52, 53, 54, 55, 56] (by decide +kernel) (by decide +kernel)
set_option maxRecDepth 20000 in
theorem gX5_canAny_X5_isSound : GoodIn wsX5_canAny (wsV RX5 129 RX5 yX5_isSound wsX5_isSound) := goodIn_app (goodIn_of _ (by decide +kernel)) ggX5_canAny_X5_isSound
theorem dX5_canAny_0 : decode cX5_canAny 0 = .ok (.aload_n 0, 1) := by decide +kernel
theorem dX5_canAny_1 : decode cX5_canAny 1 = .ok (.aload_n 0, 1) := by decide +kernel
theorem dX5_canAny_2 : decode cX5_canAny 2 = .ok (.invokevirtual 104, 3) := by decide +kernel
theorem dX5_canAny_5 : decode cX5_canAny 5 = .ok (.bipush 10, 2) := by decide +kernel
theorem dX5_canAny_7 : decode cX5_canAny 7 = .ok (.if_icmp .gt 7, 3) := by decide +kernel
theorem dX5_canAny_10 : decode cX5_canAny 10 = .ok (.iconst 1, 1) := by decide +kernel
theorem dX5_canAny_11 : decode cX5_canAny 11 = .ok (.goto 4, 3) := by decide +kernel
theorem dX5_canAny_14 : decode cX5_canAny 14 = .ok (.iconst 0, 1) := by decide +kernel
theorem dX5_canAny_15 : decode cX5_canAny 15 = .ok (.invokevirtual 86, 3) := by decide +kernel
theorem dX5_canAny_18 : decode cX5_canAny 18 = .ok (.ifCond .ne 5, 3) := by decide +kernel
theorem dX5_canAny_21 : decode cX5_canAny 21 = .ok (.iconst 0, 1) := by decide +kernel
theorem dX5_canAny_22 : decode cX5_canAny 22 = .ok (.ireturn, 1) := by decide +kernel
theorem dX5_canAny_23 : decode cX5_canAny 23 = .ok (.iconst 0, 1) := by decide +kernel
theorem dX5_canAny_24 : decode cX5_canAny 24 = .ok (.istore_n 1, 1) := by decide +kernel
theorem dX5_canAny_25 : decode cX5_canAny 25 = .ok (.iconst 1, 1) := by decide +kernel
theorem dX5_canAny_26 : decode cX5_canAny 26 = .ok (.istore_n 2, 1) := by decide +kernel
theorem dX5_canAny_27 : decode cX5_canAny 27 = .ok (.iload_n 2, 1) := by decide +kernel
theorem dX5_canAny_28 : decode cX5_canAny 28 = .ok (.iconst 1, 1) := by decide +kernel
theorem dX5_canAny_29 : decode cX5_canAny 29 = .ok (.aload_n 0, 1) := by decide +kernel
theorem dX5_canAny_30 : decode cX5_canAny 30 = .ok (.invokevirtual 104, 3) := by decide +kernel
theorem dX5_canAny_33 : decode cX5_canAny 33 = .ok (.ishl, 1) := by decide +kernel
theorem dX5_canAny_34 : decode cX5_canAny 34 = .ok (.if_icmp .ge 30, 3) := by decide +kernel
theorem dX5_canAny_37 : decode cX5_canAny 37 = .ok (.iload_n 1, 1) := by decide +kernel
theorem dX5_canAny_38 : decode cX5_canAny 38 = .ok (.ifCond .ne 26, 3) := by decide +kernel
theorem dX5_canAny_41 : decode cX5_canAny 41 = .ok (.aload_n 0, 1) := by decide +kernel
theorem dX5_canAny_42 : decode cX5_canAny 42 = .ok (.iload_n 2, 1) := by decide +kernel
theorem dX5_canAny_43 : decode cX5_canAny 43 = .ok (.iconst 1, 1) := by decide +kernel
theorem dX5_canAny_44 : decode cX5_canAny 44 = .ok (.invokevirtual 139, 3) := by decide +kernel
theorem dX5_canAny_47 : decode cX5_canAny 47 = .ok (.aload_n 0, 1) := by decide +kernel
theorem dX5_canAny_48 : decode cX5_canAny 48 = .ok (.invokevirtual 129, 3) := by decide +kernel
theorem dX5_canAny_51 : decode cX5_canAny 51 = .ok (.istore_n 1, 1) := by decide +kernel
theorem dX5_canAny_52 : decode cX5_canAny 52 = .ok (.aload_n 0, 1) := by decide +kernel
theorem dX5_canAny_53 : decode cX5_canAny 53 = .ok (.iload_n 2, 1) := by decide +kernel
theorem dX5_canAny_54 : decode cX5_canAny 54 = .ok (.iconst (-1), 1) := by decide +kernel
theorem dX5_canAny_55 : decode cX5_canAny 55 = .ok (.invokevirtual 139, 3) := by decide +kernel
theorem dX5_canAny_58 : decode cX5_canAny 58 = .ok (.iinc 2 1, 3) := by decide +kernel
theorem dX5_canAny_61 : decode cX5_canAny 61 = .ok (.goto (-34), 3) := by decide +kernel
theorem dX5_canAny_64 : decode cX5_canAny 64 = .ok (.iload_n 1, 1) := by decide +kernel
theorem dX5_canAny_65 : decode cX5_canAny 65 = .ok (.ireturn, 1) := by decide +kernel
set_option maxRecDepth 20000 in
theorem ggX5_moveSet_X5_moves : GoodIn wsX5_moveSet wsX5_moves := goodIn_r _ [7, 8, 9, 10, 11, 12, 13, 14, 15, 16, 17, 18, 19, 20, 21, 22, 23, 24, 25, 26, 27, 28, 29, 30, 31, 32, 33, 34, 35, 36, 37] (by decide +kernel) (by decide +kernel)
set_option maxRecDepth 20000 in
theorem gX5_moveSet_X5_moves : GoodIn wsX5_moveSet (wsV RX5 108 RX5 yX5_moves wsX5_moves) := goodIn_app (goodIn_of _ (by decide +kernel)) ggX5_moveSet_X5_moves
theorem dX5_moveSet_0 : decode cX5_moveSet 0 = .ok (.iconst 0, 1) := by decide +kernel
theorem dX5_moveSet_1 : decode cX5_moveSet 1 = .ok (.istore_n 3, 1) := by decide +kernel
theorem dX5_moveSet_2 : decode cX5_moveSet 2 = .ok (.iconst 0, 1) := by decide +kernel
theorem dX5_moveSet_3 : decode cX5_moveSet 3 = .ok (.istore 4, 2) := by decide +kernel
theorem dX5_moveSet_5 : decode cX5_moveSet 5 = .ok (.iload 4, 2) := by decide +kernel
theorem dX5_moveSet_7 : decode cX5_moveSet 7 = .ok (.aload_n 0, 1) := by decide +kernel
theorem dX5_moveSet_8 : decode cX5_moveSet 8 = .ok (.getfield 79, 3) := by decide +kernel
theorem dX5_moveSet_11 : decode cX5_moveSet 11 = .ok (.if_icmp .ge 38, 3) := by decide +kernel
theorem dX5_moveSet_14 : decode cX5_moveSet 14 = .ok (.aload_n 0, 1) := by decide +kernel
theorem dX5_moveSet_15 : decode cX5_moveSet 15 = .ok (.getfield 41, 3) := by decide +kernel
theorem dX5_moveSet_18 : decode cX5_moveSet 18 = .ok (.iload 4, 2) := by decide +kernel
theorem dX5_moveSet_20 : decode cX5_moveSet 20 = .ok (.baload, 1) := by decide +kernel
theorem dX5_moveSet_21 : decode cX5_moveSet 21 = .ok (.ifCond .eq 22, 3) := by decide +kernel
theorem dX5_moveSet_24 : decode cX5_moveSet 24 = .ok (.iload_n 1, 1) := by decide +kernel
theorem dX5_moveSet_25 : decode cX5_moveSet 25 = .ok (.iload_n 3, 1) := by decide +kernel
theorem dX5_moveSet_26 : decode cX5_moveSet 26 = .ok (.ishr, 1) := by decide +kernel
theorem dX5_moveSet_27 : decode cX5_moveSet 27 = .ok (.iconst 1, 1) := by decide +kernel
theorem dX5_moveSet_28 : decode cX5_moveSet 28 = .ok (.iand, 1) := by decide +kernel
theorem dX5_moveSet_29 : decode cX5_moveSet 29 = .ok (.iconst 1, 1) := by decide +kernel
theorem dX5_moveSet_30 : decode cX5_moveSet 30 = .ok (.if_icmp .ne 10, 3) := by decide +kernel
theorem dX5_moveSet_33 : decode cX5_moveSet 33 = .ok (.aload_n 0, 1) := by decide +kernel
theorem dX5_moveSet_34 : decode cX5_moveSet 34 = .ok (.iload 4, 2) := by decide +kernel
theorem dX5_moveSet_36 : decode cX5_moveSet 36 = .ok (.iload_n 2, 1) := by decide +kernel
theorem dX5_moveSet_37 : decode cX5_moveSet 37 = .ok (.invokevirtual 108, 3) := by decide +kernel
theorem dX5_moveSet_40 : decode cX5_moveSet 40 = .ok (.iinc 3 1, 3) := by decide +kernel
theorem dX5_moveSet_43 : decode cX5_moveSet 43 = .ok (.iinc 4 1, 3) := by decide +kernel
theorem dX5_moveSet_46 : decode cX5_moveSet 46 = .ok (.goto (-41), 3) := by decide +kernel
theorem dX5_moveSet_49 : decode cX5_moveSet 49 = .ok (.return_, 1) := by decide +kernel
set_option maxRecDepth 20000 in
theorem ggX5_setPrice_X5_in : GoodIn wsX5_setPrice wsX5_in := goodIn_r _ [6] (by decide +kernel) (by decide +kernel)
set_option maxRecDepth 20000 in
theorem gX5_setPrice_X5_in : GoodIn wsX5_setPrice (va_wsS RX5 90 yX5_in wsX5_in) := goodIn_app (goodIn_of _ (by decide +kernel)) ggX5_setPrice_X5_in
set_option maxRecDepth 20000 in
theorem ggX5_setPrice_X5_asks : GoodIn wsX5_setPrice wsX5_asks := goodIn_r _ [10, 11, 12, 13, 14, 15, 16, 17, 18, 19, 20, 21, 22, 23, 24, 25, 26, 27, 28, 29, 30, 31, 32, 33, 34, 35, 36] (by decide +kernel) (by decide +kernel)
set_option maxRecDepth 20000 in
theorem gX5_setPrice_X5_asks : GoodIn wsX5_setPrice (wsV RX5 86 RX5 yX5_asks wsX5_asks) := goodIn_app (goodIn_of _ (by decide +kernel)) ggX5_setPrice_X5_asks
theorem dX5_setPrice_0 : decode cX5_setPrice 0 = .ok (.aload_n 0, 1) := by decide +kernel
theorem dX5_setPrice_1 : decode cX5_setPrice 1 = .ok (.iload_n 1, 1) := by decide +kernel
theorem dX5_setPrice_2 : decode cX5_setPrice 2 = .ok (.iconst 1, 1) := by decide +kernel
theorem dX5_setPrice_3 : decode cX5_setPrice 3 = .ok (.sipush 1000, 3) := by decide +kernel
theorem dX5_setPrice_6 : decode cX5_setPrice 6 = .ok (.invokestatic 90, 3) := by decide +kernel
theorem dX5_setPrice_9 : decode cX5_setPrice 9 = .ok (.ifCond .eq 18, 3) := by decide +kernel
theorem dX5_setPrice_12 : decode cX5_setPrice 12 = .ok (.iload_n 2, 1) := by decide +kernel
theorem dX5_setPrice_13 : decode cX5_setPrice 13 = .ok (.iconst 0, 1) := by decide +kernel
theorem dX5_setPrice_14 : decode cX5_setPrice 14 = .ok (.sipush 1000, 3) := by decide +kernel
theorem dX5_setPrice_17 : decode cX5_setPrice 17 = .ok (.invokestatic 90, 3) := by decide +kernel
theorem dX5_setPrice_20 : decode cX5_setPrice 20 = .ok (.ifCond .eq 7, 3) := by decide +kernel
theorem dX5_setPrice_23 : decode cX5_setPrice 23 = .ok (.iconst 1, 1) := by decide +kernel
theorem dX5_setPrice_24 : decode cX5_setPrice 24 = .ok (.goto 4, 3) := by decide +kernel
theorem dX5_setPrice_27 : decode cX5_setPrice 27 = .ok (.iconst 0, 1) := by decide +kernel
theorem dX5_setPrice_28 : decode cX5_setPrice 28 = .ok (.invokevirtual 86, 3) := by decide +kernel
theorem dX5_setPrice_31 : decode cX5_setPrice 31 = .ok (.ifCond .eq 13, 3) := by decide +kernel
theorem dX5_setPrice_34 : decode cX5_setPrice 34 = .ok (.aload_n 0, 1) := by decide +kernel
theorem dX5_setPrice_35 : decode cX5_setPrice 35 = .ok (.iload_n 1, 1) := by decide +kernel
theorem dX5_setPrice_36 : decode cX5_setPrice 36 = .ok (.putfield 69, 3) := by decide +kernel
theorem dX5_setPrice_39 : decode cX5_setPrice 39 = .ok (.aload_n 0, 1) := by decide +kernel
theorem dX5_setPrice_40 : decode cX5_setPrice 40 = .ok (.iload_n 2, 1) := by decide +kernel
theorem dX5_setPrice_41 : decode cX5_setPrice 41 = .ok (.putfield 72, 3) := by decide +kernel
theorem dX5_setPrice_44 : decode cX5_setPrice 44 = .ok (.return_, 1) := by decide +kernel
set_option maxRecDepth 20000 in
theorem ggX5_lend_X5_isBank : GoodIn wsX5_lend wsX5_isBank := goodIn_r _ [19] (by decide +kernel) (by decide +kernel)
set_option maxRecDepth 20000 in
theorem gX5_lend_X5_isBank : GoodIn wsX5_lend (va_wsS RX5 82 yX5_isBank wsX5_isBank) := goodIn_app (goodIn_of _ (by decide +kernel)) ggX5_lend_X5_isBank
set_option maxRecDepth 20000 in
theorem ggX5_lend_X5_asks : GoodIn wsX5_lend wsX5_asks := goodIn_r _ [23, 24, 32, 33, 34, 35, 36, 37, 38, 39, 40, 41, 42, 43, 44, 45, 46, 47, 48, 49, 50, 51, 52, 53, 54, 55, 56] (by decide +kernel) (by decide +kernel)
set_option maxRecDepth 20000 in
theorem gX5_lend_X5_asks : GoodIn wsX5_lend (wsV RX5 86 RX5 yX5_asks wsX5_asks) := goodIn_app (goodIn_of _ (by decide +kernel)) ggX5_lend_X5_asks
set_option maxRecDepth 20000 in
theorem ggX5_lend_X5_in : GoodIn wsX5_lend wsX5_in := goodIn_r _ [27] (by decide +kernel) (by decide +kernel)
set_option maxRecDepth 20000 in
theorem gX5_lend_X5_in : GoodIn wsX5_lend (va_wsS RX5 90 yX5_in wsX5_in) := goodIn_app (goodIn_of _ (by decide +kernel)) ggX5_lend_X5_in
set_option maxRecDepth 20000 in
theorem ggX5_lend_X5_fails : GoodIn wsX5_lend wsX5_fails := goodIn_r _ [31, 24, 32, 33, 34, 35, 36, 37, 38, 39, 40, 41, 42, 43, 44, 45, 46, 47, 48, 49, 50, 51, 52, 53, 54, 55, 56] (by decide +kernel) (by decide +kernel)
set_option maxRecDepth 20000 in
theorem gX5_lend_X5_fails : GoodIn wsX5_lend (wsV RX5 94 RX5 yX5_fails wsX5_fails) := goodIn_app (goodIn_of _ (by decide +kernel)) ggX5_lend_X5_fails
theorem dX5_lend_0 : decode cX5_lend 0 = .ok (.aload_n 0, 1) := by decide +kernel
theorem dX5_lend_1 : decode cX5_lend 1 = .ok (.iload_n 1, 1) := by decide +kernel
theorem dX5_lend_2 : decode cX5_lend 2 = .ok (.invokestatic 82, 3) := by decide +kernel
theorem dX5_lend_5 : decode cX5_lend 5 = .ok (.ifCond .eq 14, 3) := by decide +kernel
theorem dX5_lend_8 : decode cX5_lend 8 = .ok (.iload_n 2, 1) := by decide +kernel
theorem dX5_lend_9 : decode cX5_lend 9 = .ok (.invokestatic 82, 3) := by decide +kernel
theorem dX5_lend_12 : decode cX5_lend 12 = .ok (.ifCond .eq 7, 3) := by decide +kernel
theorem dX5_lend_15 : decode cX5_lend 15 = .ok (.iconst 1, 1) := by decide +kernel
theorem dX5_lend_16 : decode cX5_lend 16 = .ok (.goto 4, 3) := by decide +kernel
theorem dX5_lend_19 : decode cX5_lend 19 = .ok (.iconst 0, 1) := by decide +kernel
theorem dX5_lend_20 : decode cX5_lend 20 = .ok (.invokevirtual 86, 3) := by decide +kernel
theorem dX5_lend_23 : decode cX5_lend 23 = .ok (.ifCond .ne 5, 3) := by decide +kernel
theorem dX5_lend_26 : decode cX5_lend 26 = .ok (.iconst 0, 1) := by decide +kernel
theorem dX5_lend_27 : decode cX5_lend 27 = .ok (.ireturn, 1) := by decide +kernel
theorem dX5_lend_28 : decode cX5_lend 28 = .ok (.iload_n 1, 1) := by decide +kernel
theorem dX5_lend_29 : decode cX5_lend 29 = .ok (.iload_n 2, 1) := by decide +kernel
theorem dX5_lend_30 : decode cX5_lend 30 = .ok (.if_icmp .eq 37, 3) := by decide +kernel
theorem dX5_lend_33 : decode cX5_lend 33 = .ok (.iload_n 3, 1) := by decide +kernel
theorem dX5_lend_34 : decode cX5_lend 34 = .ok (.iconst 1, 1) := by decide +kernel
theorem dX5_lend_35 : decode cX5_lend 35 = .ok (.ldc 100, 2) := by decide +kernel
theorem dX5_lend_37 : decode cX5_lend 37 = .ok (.invokestatic 90, 3) := by decide +kernel
theorem dX5_lend_40 : decode cX5_lend 40 = .ok (.ifCond .eq 27, 3) := by decide +kernel
theorem dX5_lend_43 : decode cX5_lend 43 = .ok (.iload 4, 2) := by decide +kernel
theorem dX5_lend_45 : decode cX5_lend 45 = .ok (.iconst 0, 1) := by decide +kernel
theorem dX5_lend_46 : decode cX5_lend 46 = .ok (.sipush 200, 3) := by decide +kernel
theorem dX5_lend_49 : decode cX5_lend 49 = .ok (.invokestatic 90, 3) := by decide +kernel
theorem dX5_lend_52 : decode cX5_lend 52 = .ok (.ifCond .eq 15, 3) := by decide +kernel
theorem dX5_lend_55 : decode cX5_lend 55 = .ok (.iload 5, 2) := by decide +kernel
theorem dX5_lend_57 : decode cX5_lend 57 = .ok (.iconst 0, 1) := by decide +kernel
theorem dX5_lend_58 : decode cX5_lend 58 = .ok (.sipush 1000, 3) := by decide +kernel
theorem dX5_lend_61 : decode cX5_lend 61 = .ok (.invokestatic 90, 3) := by decide +kernel
theorem dX5_lend_64 : decode cX5_lend 64 = .ok (.ifCond .ne 9, 3) := by decide +kernel
theorem dX5_lend_67 : decode cX5_lend 67 = .ok (.aload_n 0, 1) := by decide +kernel
theorem dX5_lend_68 : decode cX5_lend 68 = .ok (.iconst 2, 1) := by decide +kernel
theorem dX5_lend_69 : decode cX5_lend 69 = .ok (.invokevirtual 94, 3) := by decide +kernel
theorem dX5_lend_72 : decode cX5_lend 72 = .ok (.ireturn, 1) := by decide +kernel
theorem dX5_lend_73 : decode cX5_lend 73 = .ok (.iload 5, 2) := by decide +kernel
theorem dX5_lend_75 : decode cX5_lend 75 = .ok (.i2l, 1) := by decide +kernel
theorem dX5_lend_76 : decode cX5_lend 76 = .ok (.aload_n 0, 1) := by decide +kernel
theorem dX5_lend_77 : decode cX5_lend 77 = .ok (.getfield 69, 3) := by decide +kernel
theorem dX5_lend_80 : decode cX5_lend 80 = .ok (.i2l, 1) := by decide +kernel
theorem dX5_lend_81 : decode cX5_lend 81 = .ok (.lmul, 1) := by decide +kernel
theorem dX5_lend_82 : decode cX5_lend 82 = .ok (.sipush 1000, 3) := by decide +kernel
theorem dX5_lend_85 : decode cX5_lend 85 = .ok (.aload_n 0, 1) := by decide +kernel
theorem dX5_lend_86 : decode cX5_lend 86 = .ok (.getfield 72, 3) := by decide +kernel
theorem dX5_lend_89 : decode cX5_lend 89 = .ok (.isub, 1) := by decide +kernel
theorem dX5_lend_90 : decode cX5_lend 90 = .ok (.i2l, 1) := by decide +kernel
theorem dX5_lend_91 : decode cX5_lend 91 = .ok (.lmul, 1) := by decide +kernel
theorem dX5_lend_92 : decode cX5_lend 92 = .ok (.ldc2_w 142, 3) := by decide +kernel
theorem dX5_lend_95 : decode cX5_lend 95 = .ok (.ldiv, 1) := by decide +kernel
theorem dX5_lend_96 : decode cX5_lend 96 = .ok (.lstore 6, 2) := by decide +kernel
theorem dX5_lend_98 : decode cX5_lend 98 = .ok (.aload_n 0, 1) := by decide +kernel
theorem dX5_lend_99 : decode cX5_lend 99 = .ok (.getfield 19, 3) := by decide +kernel
theorem dX5_lend_102 : decode cX5_lend 102 = .ok (.iload_n 1, 1) := by decide +kernel
theorem dX5_lend_103 : decode cX5_lend 103 = .ok (.baload, 1) := by decide +kernel
theorem dX5_lend_104 : decode cX5_lend 104 = .ok (.ifCond .ne 57, 3) := by decide +kernel
theorem dX5_lend_107 : decode cX5_lend 107 = .ok (.aload_n 0, 1) := by decide +kernel
theorem dX5_lend_108 : decode cX5_lend 108 = .ok (.getfield 19, 3) := by decide +kernel
theorem dX5_lend_111 : decode cX5_lend 111 = .ok (.iload_n 2, 1) := by decide +kernel
theorem dX5_lend_112 : decode cX5_lend 112 = .ok (.baload, 1) := by decide +kernel
theorem dX5_lend_113 : decode cX5_lend 113 = .ok (.ifCond .ne 48, 3) := by decide +kernel
theorem dX5_lend_116 : decode cX5_lend 116 = .ok (.aload_n 0, 1) := by decide +kernel
theorem dX5_lend_117 : decode cX5_lend 117 = .ok (.getfield 144, 3) := by decide +kernel
theorem dX5_lend_120 : decode cX5_lend 120 = .ok (.bipush 40, 2) := by decide +kernel
theorem dX5_lend_122 : decode cX5_lend 122 = .ok (.if_icmp .eq 39, 3) := by decide +kernel
theorem dX5_lend_125 : decode cX5_lend 125 = .ok (.aload_n 0, 1) := by decide +kernel
theorem dX5_lend_126 : decode cX5_lend 126 = .ok (.getfield 16, 3) := by decide +kernel
theorem dX5_lend_129 : decode cX5_lend 129 = .ok (.iload_n 2, 1) := by decide +kernel
theorem dX5_lend_130 : decode cX5_lend 130 = .ok (.iaload, 1) := by decide +kernel
theorem dX5_lend_131 : decode cX5_lend 131 = .ok (.iload 5, 2) := by decide +kernel
theorem dX5_lend_133 : decode cX5_lend 133 = .ok (.if_icmp .lt 28, 3) := by decide +kernel
theorem dX5_lend_136 : decode cX5_lend 136 = .ok (.lload 6, 2) := by decide +kernel
theorem dX5_lend_138 : decode cX5_lend 138 = .ok (.iload_n 3, 1) := by decide +kernel
theorem dX5_lend_139 : decode cX5_lend 139 = .ok (.i2l, 1) := by decide +kernel
theorem dX5_lend_140 : decode cX5_lend 140 = .ok (.lcmp, 1) := by decide +kernel
theorem dX5_lend_141 : decode cX5_lend 141 = .ok (.ifCond .lt 20, 3) := by decide +kernel
theorem dX5_lend_144 : decode cX5_lend 144 = .ok (.aload_n 0, 1) := by decide +kernel
theorem dX5_lend_145 : decode cX5_lend 145 = .ok (.getfield 7, 3) := by decide +kernel
theorem dX5_lend_148 : decode cX5_lend 148 = .ok (.iload_n 1, 1) := by decide +kernel
theorem dX5_lend_149 : decode cX5_lend 149 = .ok (.iaload, 1) := by decide +kernel
theorem dX5_lend_150 : decode cX5_lend 150 = .ok (.iload_n 3, 1) := by decide +kernel
theorem dX5_lend_151 : decode cX5_lend 151 = .ok (.isub, 1) := by decide +kernel
theorem dX5_lend_152 : decode cX5_lend 152 = .ok (.aload_n 0, 1) := by decide +kernel
theorem dX5_lend_153 : decode cX5_lend 153 = .ok (.getfield 13, 3) := by decide +kernel
theorem dX5_lend_156 : decode cX5_lend 156 = .ok (.iload_n 1, 1) := by decide +kernel
theorem dX5_lend_157 : decode cX5_lend 157 = .ok (.iaload, 1) := by decide +kernel
theorem dX5_lend_158 : decode cX5_lend 158 = .ok (.if_icmp .ge 9, 3) := by decide +kernel
theorem dX5_lend_161 : decode cX5_lend 161 = .ok (.aload_n 0, 1) := by decide +kernel
theorem dX5_lend_162 : decode cX5_lend 162 = .ok (.iconst 3, 1) := by decide +kernel
theorem dX5_lend_163 : decode cX5_lend 163 = .ok (.invokevirtual 94, 3) := by decide +kernel
theorem dX5_lend_166 : decode cX5_lend 166 = .ok (.ireturn, 1) := by decide +kernel
theorem dX5_lend_167 : decode cX5_lend 167 = .ok (.aload_n 0, 1) := by decide +kernel
theorem dX5_lend_168 : decode cX5_lend 168 = .ok (.getfield 51, 3) := by decide +kernel
theorem dX5_lend_171 : decode cX5_lend 171 = .ok (.aload_n 0, 1) := by decide +kernel
theorem dX5_lend_172 : decode cX5_lend 172 = .ok (.getfield 144, 3) := by decide +kernel
theorem dX5_lend_175 : decode cX5_lend 175 = .ok (.iload_n 1, 1) := by decide +kernel
theorem dX5_lend_176 : decode cX5_lend 176 = .ok (.iastore, 1) := by decide +kernel
theorem dX5_lend_177 : decode cX5_lend 177 = .ok (.aload_n 0, 1) := by decide +kernel
theorem dX5_lend_178 : decode cX5_lend 178 = .ok (.getfield 54, 3) := by decide +kernel
theorem dX5_lend_181 : decode cX5_lend 181 = .ok (.aload_n 0, 1) := by decide +kernel
theorem dX5_lend_182 : decode cX5_lend 182 = .ok (.getfield 144, 3) := by decide +kernel
theorem dX5_lend_185 : decode cX5_lend 185 = .ok (.iload_n 2, 1) := by decide +kernel
theorem dX5_lend_186 : decode cX5_lend 186 = .ok (.iastore, 1) := by decide +kernel
theorem dX5_lend_187 : decode cX5_lend 187 = .ok (.aload_n 0, 1) := by decide +kernel
theorem dX5_lend_188 : decode cX5_lend 188 = .ok (.getfield 57, 3) := by decide +kernel
theorem dX5_lend_191 : decode cX5_lend 191 = .ok (.aload_n 0, 1) := by decide +kernel
theorem dX5_lend_192 : decode cX5_lend 192 = .ok (.getfield 144, 3) := by decide +kernel
theorem dX5_lend_195 : decode cX5_lend 195 = .ok (.iload_n 3, 1) := by decide +kernel
theorem dX5_lend_196 : decode cX5_lend 196 = .ok (.iastore, 1) := by decide +kernel
theorem dX5_lend_197 : decode cX5_lend 197 = .ok (.aload_n 0, 1) := by decide +kernel
theorem dX5_lend_198 : decode cX5_lend 198 = .ok (.getfield 60, 3) := by decide +kernel
theorem dX5_lend_201 : decode cX5_lend 201 = .ok (.aload_n 0, 1) := by decide +kernel
theorem dX5_lend_202 : decode cX5_lend 202 = .ok (.getfield 144, 3) := by decide +kernel
theorem dX5_lend_205 : decode cX5_lend 205 = .ok (.iload 4, 2) := by decide +kernel
theorem dX5_lend_207 : decode cX5_lend 207 = .ok (.iastore, 1) := by decide +kernel
theorem dX5_lend_208 : decode cX5_lend 208 = .ok (.aload_n 0, 1) := by decide +kernel
theorem dX5_lend_209 : decode cX5_lend 209 = .ok (.getfield 63, 3) := by decide +kernel
theorem dX5_lend_212 : decode cX5_lend 212 = .ok (.aload_n 0, 1) := by decide +kernel
theorem dX5_lend_213 : decode cX5_lend 213 = .ok (.getfield 144, 3) := by decide +kernel
theorem dX5_lend_216 : decode cX5_lend 216 = .ok (.iload 5, 2) := by decide +kernel
theorem dX5_lend_218 : decode cX5_lend 218 = .ok (.iastore, 1) := by decide +kernel
theorem dX5_lend_219 : decode cX5_lend 219 = .ok (.aload_n 0, 1) := by decide +kernel
theorem dX5_lend_220 : decode cX5_lend 220 = .ok (.getfield 66, 3) := by decide +kernel
theorem dX5_lend_223 : decode cX5_lend 223 = .ok (.aload_n 0, 1) := by decide +kernel
theorem dX5_lend_224 : decode cX5_lend 224 = .ok (.getfield 144, 3) := by decide +kernel
theorem dX5_lend_227 : decode cX5_lend 227 = .ok (.iconst 1, 1) := by decide +kernel
theorem dX5_lend_228 : decode cX5_lend 228 = .ok (.bastore, 1) := by decide +kernel
theorem dX5_lend_229 : decode cX5_lend 229 = .ok (.aload_n 0, 1) := by decide +kernel
theorem dX5_lend_230 : decode cX5_lend 230 = .ok (.getfield 7, 3) := by decide +kernel
theorem dX5_lend_233 : decode cX5_lend 233 = .ok (.iload_n 1, 1) := by decide +kernel
theorem dX5_lend_234 : decode cX5_lend 234 = .ok (.dup2, 1) := by decide +kernel
theorem dX5_lend_235 : decode cX5_lend 235 = .ok (.iaload, 1) := by decide +kernel
theorem dX5_lend_236 : decode cX5_lend 236 = .ok (.iload_n 3, 1) := by decide +kernel
theorem dX5_lend_237 : decode cX5_lend 237 = .ok (.isub, 1) := by decide +kernel
theorem dX5_lend_238 : decode cX5_lend 238 = .ok (.iastore, 1) := by decide +kernel
theorem dX5_lend_239 : decode cX5_lend 239 = .ok (.aload_n 0, 1) := by decide +kernel
theorem dX5_lend_240 : decode cX5_lend 240 = .ok (.getfield 7, 3) := by decide +kernel
theorem dX5_lend_243 : decode cX5_lend 243 = .ok (.iload_n 2, 1) := by decide +kernel
theorem dX5_lend_244 : decode cX5_lend 244 = .ok (.dup2, 1) := by decide +kernel
theorem dX5_lend_245 : decode cX5_lend 245 = .ok (.iaload, 1) := by decide +kernel
theorem dX5_lend_246 : decode cX5_lend 246 = .ok (.iload_n 3, 1) := by decide +kernel
theorem dX5_lend_247 : decode cX5_lend 247 = .ok (.iadd, 1) := by decide +kernel
theorem dX5_lend_248 : decode cX5_lend 248 = .ok (.iastore, 1) := by decide +kernel
theorem dX5_lend_249 : decode cX5_lend 249 = .ok (.aload_n 0, 1) := by decide +kernel
theorem dX5_lend_250 : decode cX5_lend 250 = .ok (.getfield 16, 3) := by decide +kernel
theorem dX5_lend_253 : decode cX5_lend 253 = .ok (.iload_n 2, 1) := by decide +kernel
theorem dX5_lend_254 : decode cX5_lend 254 = .ok (.dup2, 1) := by decide +kernel
theorem dX5_lend_255 : decode cX5_lend 255 = .ok (.iaload, 1) := by decide +kernel
theorem dX5_lend_256 : decode cX5_lend 256 = .ok (.iload 5, 2) := by decide +kernel
theorem dX5_lend_258 : decode cX5_lend 258 = .ok (.isub, 1) := by decide +kernel
theorem dX5_lend_259 : decode cX5_lend 259 = .ok (.iastore, 1) := by decide +kernel
theorem dX5_lend_260 : decode cX5_lend 260 = .ok (.aload_n 0, 1) := by decide +kernel
theorem dX5_lend_261 : decode cX5_lend 261 = .ok (.dup, 1) := by decide +kernel
theorem dX5_lend_262 : decode cX5_lend 262 = .ok (.getfield 144, 3) := by decide +kernel
theorem dX5_lend_265 : decode cX5_lend 265 = .ok (.iconst 1, 1) := by decide +kernel
theorem dX5_lend_266 : decode cX5_lend 266 = .ok (.iadd, 1) := by decide +kernel
theorem dX5_lend_267 : decode cX5_lend 267 = .ok (.putfield 144, 3) := by decide +kernel
theorem dX5_lend_270 : decode cX5_lend 270 = .ok (.aload_n 0, 1) := by decide +kernel
theorem dX5_lend_271 : decode cX5_lend 271 = .ok (.getfield 144, 3) := by decide +kernel
theorem dX5_lend_274 : decode cX5_lend 274 = .ok (.iconst 1, 1) := by decide +kernel
theorem dX5_lend_275 : decode cX5_lend 275 = .ok (.isub, 1) := by decide +kernel
theorem dX5_lend_276 : decode cX5_lend 276 = .ok (.ireturn, 1) := by decide +kernel
theorem dX5_loans_0 : decode cX5_loans 0 = .ok (.aload_n 0, 1) := by decide +kernel
theorem dX5_loans_1 : decode cX5_loans 1 = .ok (.iconst 0, 1) := by decide +kernel
theorem dX5_loans_2 : decode cX5_loans 2 = .ok (.putfield 76, 3) := by decide +kernel
theorem dX5_loans_5 : decode cX5_loans 5 = .ok (.iconst 0, 1) := by decide +kernel
theorem dX5_loans_6 : decode cX5_loans 6 = .ok (.istore_n 1, 1) := by decide +kernel
theorem dX5_loans_7 : decode cX5_loans 7 = .ok (.iconst 0, 1) := by decide +kernel
theorem dX5_loans_8 : decode cX5_loans 8 = .ok (.istore_n 2, 1) := by decide +kernel
theorem dX5_loans_9 : decode cX5_loans 9 = .ok (.iload_n 2, 1) := by decide +kernel
theorem dX5_loans_10 : decode cX5_loans 10 = .ok (.aload_n 0, 1) := by decide +kernel
theorem dX5_loans_11 : decode cX5_loans 11 = .ok (.getfield 144, 3) := by decide +kernel
theorem dX5_loans_14 : decode cX5_loans 14 = .ok (.if_icmp .ge 26, 3) := by decide +kernel
theorem dX5_loans_17 : decode cX5_loans 17 = .ok (.iload_n 1, 1) := by decide +kernel
theorem dX5_loans_18 : decode cX5_loans 18 = .ok (.aload_n 0, 1) := by decide +kernel
theorem dX5_loans_19 : decode cX5_loans 19 = .ok (.getfield 66, 3) := by decide +kernel
theorem dX5_loans_22 : decode cX5_loans 22 = .ok (.iload_n 2, 1) := by decide +kernel
theorem dX5_loans_23 : decode cX5_loans 23 = .ok (.baload, 1) := by decide +kernel
theorem dX5_loans_24 : decode cX5_loans 24 = .ok (.ifCond .eq 7, 3) := by decide +kernel
theorem dX5_loans_27 : decode cX5_loans 27 = .ok (.iconst 1, 1) := by decide +kernel
theorem dX5_loans_28 : decode cX5_loans 28 = .ok (.goto 4, 3) := by decide +kernel
theorem dX5_loans_31 : decode cX5_loans 31 = .ok (.iconst 0, 1) := by decide +kernel
theorem dX5_loans_32 : decode cX5_loans 32 = .ok (.iadd, 1) := by decide +kernel
theorem dX5_loans_33 : decode cX5_loans 33 = .ok (.istore_n 1, 1) := by decide +kernel
theorem dX5_loans_34 : decode cX5_loans 34 = .ok (.iinc 2 1, 3) := by decide +kernel
theorem dX5_loans_37 : decode cX5_loans 37 = .ok (.goto (-28), 3) := by decide +kernel
theorem dX5_loans_40 : decode cX5_loans 40 = .ok (.iload_n 1, 1) := by decide +kernel
theorem dX5_loans_41 : decode cX5_loans 41 = .ok (.ireturn, 1) := by decide +kernel
theorem dX5_closes_0 : decode cX5_closes 0 = .ok (.aload_n 0, 1) := by decide +kernel
theorem dX5_closes_1 : decode cX5_closes 1 = .ok (.getfield 19, 3) := by decide +kernel
theorem dX5_closes_4 : decode cX5_closes 4 = .ok (.iload_n 1, 1) := by decide +kernel
theorem dX5_closes_5 : decode cX5_closes 5 = .ok (.iconst 1, 1) := by decide +kernel
theorem dX5_closes_6 : decode cX5_closes 6 = .ok (.bastore, 1) := by decide +kernel
theorem dX5_closes_7 : decode cX5_closes 7 = .ok (.iconst 0, 1) := by decide +kernel
theorem dX5_closes_8 : decode cX5_closes 8 = .ok (.istore_n 2, 1) := by decide +kernel
theorem dX5_closes_9 : decode cX5_closes 9 = .ok (.iload_n 2, 1) := by decide +kernel
theorem dX5_closes_10 : decode cX5_closes 10 = .ok (.aload_n 0, 1) := by decide +kernel
theorem dX5_closes_11 : decode cX5_closes 11 = .ok (.getfield 79, 3) := by decide +kernel
theorem dX5_closes_14 : decode cX5_closes 14 = .ok (.if_icmp .ge 49, 3) := by decide +kernel
theorem dX5_closes_17 : decode cX5_closes 17 = .ok (.aload_n 0, 1) := by decide +kernel
theorem dX5_closes_18 : decode cX5_closes 18 = .ok (.getfield 41, 3) := by decide +kernel
theorem dX5_closes_21 : decode cX5_closes 21 = .ok (.iload_n 2, 1) := by decide +kernel
theorem dX5_closes_22 : decode cX5_closes 22 = .ok (.aload_n 0, 1) := by decide +kernel
theorem dX5_closes_23 : decode cX5_closes 23 = .ok (.getfield 41, 3) := by decide +kernel
theorem dX5_closes_26 : decode cX5_closes 26 = .ok (.iload_n 2, 1) := by decide +kernel
theorem dX5_closes_27 : decode cX5_closes 27 = .ok (.baload, 1) := by decide +kernel
theorem dX5_closes_28 : decode cX5_closes 28 = .ok (.ifCond .eq 27, 3) := by decide +kernel
theorem dX5_closes_31 : decode cX5_closes 31 = .ok (.aload_n 0, 1) := by decide +kernel
theorem dX5_closes_32 : decode cX5_closes 32 = .ok (.getfield 29, 3) := by decide +kernel
theorem dX5_closes_35 : decode cX5_closes 35 = .ok (.iload_n 2, 1) := by decide +kernel
theorem dX5_closes_36 : decode cX5_closes 36 = .ok (.iaload, 1) := by decide +kernel
theorem dX5_closes_37 : decode cX5_closes 37 = .ok (.iload_n 1, 1) := by decide +kernel
theorem dX5_closes_38 : decode cX5_closes 38 = .ok (.if_icmp .eq 17, 3) := by decide +kernel
theorem dX5_closes_41 : decode cX5_closes 41 = .ok (.aload_n 0, 1) := by decide +kernel
theorem dX5_closes_42 : decode cX5_closes 42 = .ok (.getfield 32, 3) := by decide +kernel
theorem dX5_closes_45 : decode cX5_closes 45 = .ok (.iload_n 2, 1) := by decide +kernel
theorem dX5_closes_46 : decode cX5_closes 46 = .ok (.iaload, 1) := by decide +kernel
theorem dX5_closes_47 : decode cX5_closes 47 = .ok (.iload_n 1, 1) := by decide +kernel
theorem dX5_closes_48 : decode cX5_closes 48 = .ok (.if_icmp .eq 7, 3) := by decide +kernel
theorem dX5_closes_51 : decode cX5_closes 51 = .ok (.iconst 1, 1) := by decide +kernel
theorem dX5_closes_52 : decode cX5_closes 52 = .ok (.goto 4, 3) := by decide +kernel
theorem dX5_closes_55 : decode cX5_closes 55 = .ok (.iconst 0, 1) := by decide +kernel
theorem dX5_closes_56 : decode cX5_closes 56 = .ok (.bastore, 1) := by decide +kernel
theorem dX5_closes_57 : decode cX5_closes 57 = .ok (.iinc 2 1, 3) := by decide +kernel
theorem dX5_closes_60 : decode cX5_closes 60 = .ok (.goto (-51), 3) := by decide +kernel
theorem dX5_closes_63 : decode cX5_closes 63 = .ok (.return_, 1) := by decide +kernel
set_option maxRecDepth 20000 in
theorem ggX5_ends_X5_closes : GoodIn wsX5_ends wsX5_closes := goodIn_r _ [17, 5, 18, 19, 20, 21, 22, 23, 24, 25, 26, 27, 28, 29, 30, 31, 32, 33, 34, 35, 36, 37, 38, 39, 40, 41, 42, 43, 44, 45, 46] (by decide +kernel) (by decide +kernel)
set_option maxRecDepth 20000 in
theorem gX5_ends_X5_closes : GoodIn wsX5_ends (wsV RX5 150 RX5 yX5_closes wsX5_closes) := goodIn_app (goodIn_of _ (by decide +kernel)) ggX5_ends_X5_closes
theorem dX5_ends_0 : decode cX5_ends 0 = .ok (.aload_n 0, 1) := by decide +kernel
theorem dX5_ends_1 : decode cX5_ends 1 = .ok (.getfield 54, 3) := by decide +kernel
theorem dX5_ends_4 : decode cX5_ends 4 = .ok (.iload_n 1, 1) := by decide +kernel
theorem dX5_ends_5 : decode cX5_ends 5 = .ok (.iaload, 1) := by decide +kernel
theorem dX5_ends_6 : decode cX5_ends 6 = .ok (.istore_n 2, 1) := by decide +kernel
theorem dX5_ends_7 : decode cX5_ends 7 = .ok (.aload_n 0, 1) := by decide +kernel
theorem dX5_ends_8 : decode cX5_ends 8 = .ok (.getfield 57, 3) := by decide +kernel
theorem dX5_ends_11 : decode cX5_ends 11 = .ok (.iload_n 1, 1) := by decide +kernel
theorem dX5_ends_12 : decode cX5_ends 12 = .ok (.iaload, 1) := by decide +kernel
theorem dX5_ends_13 : decode cX5_ends 13 = .ok (.aload_n 0, 1) := by decide +kernel
theorem dX5_ends_14 : decode cX5_ends 14 = .ok (.getfield 57, 3) := by decide +kernel
theorem dX5_ends_17 : decode cX5_ends 17 = .ok (.iload_n 1, 1) := by decide +kernel
theorem dX5_ends_18 : decode cX5_ends 18 = .ok (.iaload, 1) := by decide +kernel
theorem dX5_ends_19 : decode cX5_ends 19 = .ok (.aload_n 0, 1) := by decide +kernel
theorem dX5_ends_20 : decode cX5_ends 20 = .ok (.getfield 60, 3) := by decide +kernel
theorem dX5_ends_23 : decode cX5_ends 23 = .ok (.iload_n 1, 1) := by decide +kernel
theorem dX5_ends_24 : decode cX5_ends 24 = .ok (.iaload, 1) := by decide +kernel
theorem dX5_ends_25 : decode cX5_ends 25 = .ok (.imul, 1) := by decide +kernel
theorem dX5_ends_26 : decode cX5_ends 26 = .ok (.sipush 1000, 3) := by decide +kernel
theorem dX5_ends_29 : decode cX5_ends 29 = .ok (.idiv, 1) := by decide +kernel
theorem dX5_ends_30 : decode cX5_ends 30 = .ok (.iadd, 1) := by decide +kernel
theorem dX5_ends_31 : decode cX5_ends 31 = .ok (.istore_n 3, 1) := by decide +kernel
theorem dX5_ends_32 : decode cX5_ends 32 = .ok (.aload_n 0, 1) := by decide +kernel
theorem dX5_ends_33 : decode cX5_ends 33 = .ok (.getfield 66, 3) := by decide +kernel
theorem dX5_ends_36 : decode cX5_ends 36 = .ok (.iload_n 1, 1) := by decide +kernel
theorem dX5_ends_37 : decode cX5_ends 37 = .ok (.iconst 0, 1) := by decide +kernel
theorem dX5_ends_38 : decode cX5_ends 38 = .ok (.bastore, 1) := by decide +kernel
theorem dX5_ends_39 : decode cX5_ends 39 = .ok (.aload_n 0, 1) := by decide +kernel
theorem dX5_ends_40 : decode cX5_ends 40 = .ok (.getfield 19, 3) := by decide +kernel
theorem dX5_ends_43 : decode cX5_ends 43 = .ok (.iload_n 2, 1) := by decide +kernel
theorem dX5_ends_44 : decode cX5_ends 44 = .ok (.baload, 1) := by decide +kernel
theorem dX5_ends_45 : decode cX5_ends 45 = .ok (.ifCond .ne 62, 3) := by decide +kernel
theorem dX5_ends_48 : decode cX5_ends 48 = .ok (.aload_n 0, 1) := by decide +kernel
theorem dX5_ends_49 : decode cX5_ends 49 = .ok (.getfield 7, 3) := by decide +kernel
theorem dX5_ends_52 : decode cX5_ends 52 = .ok (.iload_n 2, 1) := by decide +kernel
theorem dX5_ends_53 : decode cX5_ends 53 = .ok (.iaload, 1) := by decide +kernel
theorem dX5_ends_54 : decode cX5_ends 54 = .ok (.iload_n 3, 1) := by decide +kernel
theorem dX5_ends_55 : decode cX5_ends 55 = .ok (.isub, 1) := by decide +kernel
theorem dX5_ends_56 : decode cX5_ends 56 = .ok (.aload_n 0, 1) := by decide +kernel
theorem dX5_ends_57 : decode cX5_ends 57 = .ok (.getfield 13, 3) := by decide +kernel
theorem dX5_ends_60 : decode cX5_ends 60 = .ok (.iload_n 2, 1) := by decide +kernel
theorem dX5_ends_61 : decode cX5_ends 61 = .ok (.iaload, 1) := by decide +kernel
theorem dX5_ends_62 : decode cX5_ends 62 = .ok (.if_icmp .lt 45, 3) := by decide +kernel
theorem dX5_ends_65 : decode cX5_ends 65 = .ok (.aload_n 0, 1) := by decide +kernel
theorem dX5_ends_66 : decode cX5_ends 66 = .ok (.getfield 7, 3) := by decide +kernel
theorem dX5_ends_69 : decode cX5_ends 69 = .ok (.iload_n 2, 1) := by decide +kernel
theorem dX5_ends_70 : decode cX5_ends 70 = .ok (.dup2, 1) := by decide +kernel
theorem dX5_ends_71 : decode cX5_ends 71 = .ok (.iaload, 1) := by decide +kernel
theorem dX5_ends_72 : decode cX5_ends 72 = .ok (.iload_n 3, 1) := by decide +kernel
theorem dX5_ends_73 : decode cX5_ends 73 = .ok (.isub, 1) := by decide +kernel
theorem dX5_ends_74 : decode cX5_ends 74 = .ok (.iastore, 1) := by decide +kernel
theorem dX5_ends_75 : decode cX5_ends 75 = .ok (.aload_n 0, 1) := by decide +kernel
theorem dX5_ends_76 : decode cX5_ends 76 = .ok (.getfield 7, 3) := by decide +kernel
theorem dX5_ends_79 : decode cX5_ends 79 = .ok (.aload_n 0, 1) := by decide +kernel
theorem dX5_ends_80 : decode cX5_ends 80 = .ok (.getfield 51, 3) := by decide +kernel
theorem dX5_ends_83 : decode cX5_ends 83 = .ok (.iload_n 1, 1) := by decide +kernel
theorem dX5_ends_84 : decode cX5_ends 84 = .ok (.iaload, 1) := by decide +kernel
theorem dX5_ends_85 : decode cX5_ends 85 = .ok (.dup2, 1) := by decide +kernel
theorem dX5_ends_86 : decode cX5_ends 86 = .ok (.iaload, 1) := by decide +kernel
theorem dX5_ends_87 : decode cX5_ends 87 = .ok (.iload_n 3, 1) := by decide +kernel
theorem dX5_ends_88 : decode cX5_ends 88 = .ok (.iadd, 1) := by decide +kernel
theorem dX5_ends_89 : decode cX5_ends 89 = .ok (.iastore, 1) := by decide +kernel
theorem dX5_ends_90 : decode cX5_ends 90 = .ok (.aload_n 0, 1) := by decide +kernel
theorem dX5_ends_91 : decode cX5_ends 91 = .ok (.getfield 16, 3) := by decide +kernel
theorem dX5_ends_94 : decode cX5_ends 94 = .ok (.iload_n 2, 1) := by decide +kernel
theorem dX5_ends_95 : decode cX5_ends 95 = .ok (.dup2, 1) := by decide +kernel
theorem dX5_ends_96 : decode cX5_ends 96 = .ok (.iaload, 1) := by decide +kernel
theorem dX5_ends_97 : decode cX5_ends 97 = .ok (.aload_n 0, 1) := by decide +kernel
theorem dX5_ends_98 : decode cX5_ends 98 = .ok (.getfield 63, 3) := by decide +kernel
theorem dX5_ends_101 : decode cX5_ends 101 = .ok (.iload_n 1, 1) := by decide +kernel
theorem dX5_ends_102 : decode cX5_ends 102 = .ok (.iaload, 1) := by decide +kernel
theorem dX5_ends_103 : decode cX5_ends 103 = .ok (.iadd, 1) := by decide +kernel
theorem dX5_ends_104 : decode cX5_ends 104 = .ok (.iastore, 1) := by decide +kernel
theorem dX5_ends_105 : decode cX5_ends 105 = .ok (.iconst 0, 1) := by decide +kernel
theorem dX5_ends_106 : decode cX5_ends 106 = .ok (.ireturn, 1) := by decide +kernel
theorem dX5_ends_107 : decode cX5_ends 107 = .ok (.aload_n 0, 1) := by decide +kernel
theorem dX5_ends_108 : decode cX5_ends 108 = .ok (.getfield 63, 3) := by decide +kernel
theorem dX5_ends_111 : decode cX5_ends 111 = .ok (.iload_n 1, 1) := by decide +kernel
theorem dX5_ends_112 : decode cX5_ends 112 = .ok (.iaload, 1) := by decide +kernel
theorem dX5_ends_113 : decode cX5_ends 113 = .ok (.aload_n 0, 1) := by decide +kernel
theorem dX5_ends_114 : decode cX5_ends 114 = .ok (.getfield 69, 3) := by decide +kernel
theorem dX5_ends_117 : decode cX5_ends 117 = .ok (.imul, 1) := by decide +kernel
theorem dX5_ends_118 : decode cX5_ends 118 = .ok (.istore 4, 2) := by decide +kernel
theorem dX5_ends_120 : decode cX5_ends 120 = .ok (.iload 4, 2) := by decide +kernel
theorem dX5_ends_122 : decode cX5_ends 122 = .ok (.iload_n 3, 1) := by decide +kernel
theorem dX5_ends_123 : decode cX5_ends 123 = .ok (.if_icmp .ge 8, 3) := by decide +kernel
theorem dX5_ends_126 : decode cX5_ends 126 = .ok (.iload 4, 2) := by decide +kernel
theorem dX5_ends_128 : decode cX5_ends 128 = .ok (.goto 4, 3) := by decide +kernel
theorem dX5_ends_131 : decode cX5_ends 131 = .ok (.iload_n 3, 1) := by decide +kernel
theorem dX5_ends_132 : decode cX5_ends 132 = .ok (.istore 5, 2) := by decide +kernel
theorem dX5_ends_134 : decode cX5_ends 134 = .ok (.aload_n 0, 1) := by decide +kernel
theorem dX5_ends_135 : decode cX5_ends 135 = .ok (.getfield 7, 3) := by decide +kernel
theorem dX5_ends_138 : decode cX5_ends 138 = .ok (.aload_n 0, 1) := by decide +kernel
theorem dX5_ends_139 : decode cX5_ends 139 = .ok (.getfield 51, 3) := by decide +kernel
theorem dX5_ends_142 : decode cX5_ends 142 = .ok (.iload_n 1, 1) := by decide +kernel
theorem dX5_ends_143 : decode cX5_ends 143 = .ok (.iaload, 1) := by decide +kernel
theorem dX5_ends_144 : decode cX5_ends 144 = .ok (.dup2, 1) := by decide +kernel
theorem dX5_ends_145 : decode cX5_ends 145 = .ok (.iaload, 1) := by decide +kernel
theorem dX5_ends_146 : decode cX5_ends 146 = .ok (.iload 5, 2) := by decide +kernel
theorem dX5_ends_148 : decode cX5_ends 148 = .ok (.iadd, 1) := by decide +kernel
theorem dX5_ends_149 : decode cX5_ends 149 = .ok (.iastore, 1) := by decide +kernel
theorem dX5_ends_150 : decode cX5_ends 150 = .ok (.aload_n 0, 1) := by decide +kernel
theorem dX5_ends_151 : decode cX5_ends 151 = .ok (.getfield 7, 3) := by decide +kernel
theorem dX5_ends_154 : decode cX5_ends 154 = .ok (.iload_n 2, 1) := by decide +kernel
theorem dX5_ends_155 : decode cX5_ends 155 = .ok (.dup2, 1) := by decide +kernel
theorem dX5_ends_156 : decode cX5_ends 156 = .ok (.iaload, 1) := by decide +kernel
theorem dX5_ends_157 : decode cX5_ends 157 = .ok (.iload 4, 2) := by decide +kernel
theorem dX5_ends_159 : decode cX5_ends 159 = .ok (.iload 5, 2) := by decide +kernel
theorem dX5_ends_161 : decode cX5_ends 161 = .ok (.isub, 1) := by decide +kernel
theorem dX5_ends_162 : decode cX5_ends 162 = .ok (.iadd, 1) := by decide +kernel
theorem dX5_ends_163 : decode cX5_ends 163 = .ok (.iastore, 1) := by decide +kernel
theorem dX5_ends_164 : decode cX5_ends 164 = .ok (.aload_n 0, 1) := by decide +kernel
theorem dX5_ends_165 : decode cX5_ends 165 = .ok (.dup, 1) := by decide +kernel
theorem dX5_ends_166 : decode cX5_ends 166 = .ok (.getfield 147, 3) := by decide +kernel
theorem dX5_ends_169 : decode cX5_ends 169 = .ok (.iload 4, 2) := by decide +kernel
theorem dX5_ends_171 : decode cX5_ends 171 = .ok (.iadd, 1) := by decide +kernel
theorem dX5_ends_172 : decode cX5_ends 172 = .ok (.putfield 147, 3) := by decide +kernel
theorem dX5_ends_175 : decode cX5_ends 175 = .ok (.aload_n 0, 1) := by decide +kernel
theorem dX5_ends_176 : decode cX5_ends 176 = .ok (.getfield 19, 3) := by decide +kernel
theorem dX5_ends_179 : decode cX5_ends 179 = .ok (.iload_n 2, 1) := by decide +kernel
theorem dX5_ends_180 : decode cX5_ends 180 = .ok (.baload, 1) := by decide +kernel
theorem dX5_ends_181 : decode cX5_ends 181 = .ok (.ifCond .ne 7, 3) := by decide +kernel
theorem dX5_ends_184 : decode cX5_ends 184 = .ok (.iconst 1, 1) := by decide +kernel
theorem dX5_ends_185 : decode cX5_ends 185 = .ok (.goto 4, 3) := by decide +kernel
theorem dX5_ends_188 : decode cX5_ends 188 = .ok (.iconst 0, 1) := by decide +kernel
theorem dX5_ends_189 : decode cX5_ends 189 = .ok (.istore 6, 2) := by decide +kernel
theorem dX5_ends_191 : decode cX5_ends 191 = .ok (.iload 6, 2) := by decide +kernel
theorem dX5_ends_193 : decode cX5_ends 193 = .ok (.ifCond .eq 8, 3) := by decide +kernel
theorem dX5_ends_196 : decode cX5_ends 196 = .ok (.aload_n 0, 1) := by decide +kernel
theorem dX5_ends_197 : decode cX5_ends 197 = .ok (.iload_n 2, 1) := by decide +kernel
theorem dX5_ends_198 : decode cX5_ends 198 = .ok (.invokevirtual 150, 3) := by decide +kernel
theorem dX5_ends_201 : decode cX5_ends 201 = .ok (.iload 6, 2) := by decide +kernel
theorem dX5_ends_203 : decode cX5_ends 203 = .ok (.ireturn, 1) := by decide +kernel
set_option maxRecDepth 20000 in
theorem ggX5_morning_X5_ends : GoodIn wsX5_morning wsX5_ends := goodIn_r _ [9, 10, 11, 12, 4, 13, 14, 15, 16, 17, 18, 19, 20, 21, 22, 23, 8, 24, 25, 26, 27, 28, 29, 30, 31, 32, 33, 34, 35, 36, 37, 38, 39, 40, 41, 42, 43, 44, 45, 46, 47, 48, 49, 50, 51, 52, 53] (by decide +kernel) (by decide +kernel)
set_option maxRecDepth 20000 in
theorem gX5_morning_X5_ends : GoodIn wsX5_morning (wsV RX5 153 RX5 yX5_ends wsX5_ends) := goodIn_app (goodIn_of _ (by decide +kernel)) ggX5_morning_X5_ends
theorem dX5_morning_0 : decode cX5_morning 0 = .ok (.aload_n 0, 1) := by decide +kernel
theorem dX5_morning_1 : decode cX5_morning 1 = .ok (.iconst 0, 1) := by decide +kernel
theorem dX5_morning_2 : decode cX5_morning 2 = .ok (.putfield 76, 3) := by decide +kernel
theorem dX5_morning_5 : decode cX5_morning 5 = .ok (.iconst 0, 1) := by decide +kernel
theorem dX5_morning_6 : decode cX5_morning 6 = .ok (.istore_n 1, 1) := by decide +kernel
theorem dX5_morning_7 : decode cX5_morning 7 = .ok (.iload_n 1, 1) := by decide +kernel
theorem dX5_morning_8 : decode cX5_morning 8 = .ok (.bipush 25, 2) := by decide +kernel
theorem dX5_morning_10 : decode cX5_morning 10 = .ok (.if_icmp .ge 16, 3) := by decide +kernel
theorem dX5_morning_13 : decode cX5_morning 13 = .ok (.aload_n 0, 1) := by decide +kernel
theorem dX5_morning_14 : decode cX5_morning 14 = .ok (.getfield 23, 3) := by decide +kernel
theorem dX5_morning_17 : decode cX5_morning 17 = .ok (.iload_n 1, 1) := by decide +kernel
theorem dX5_morning_18 : decode cX5_morning 18 = .ok (.iconst 0, 1) := by decide +kernel
theorem dX5_morning_19 : decode cX5_morning 19 = .ok (.iastore, 1) := by decide +kernel
theorem dX5_morning_20 : decode cX5_morning 20 = .ok (.iinc 1 1, 3) := by decide +kernel
theorem dX5_morning_23 : decode cX5_morning 23 = .ok (.goto (-16), 3) := by decide +kernel
theorem dX5_morning_26 : decode cX5_morning 26 = .ok (.iconst 0, 1) := by decide +kernel
theorem dX5_morning_27 : decode cX5_morning 27 = .ok (.istore_n 1, 1) := by decide +kernel
theorem dX5_morning_28 : decode cX5_morning 28 = .ok (.iconst 0, 1) := by decide +kernel
theorem dX5_morning_29 : decode cX5_morning 29 = .ok (.istore_n 2, 1) := by decide +kernel
theorem dX5_morning_30 : decode cX5_morning 30 = .ok (.iload_n 2, 1) := by decide +kernel
theorem dX5_morning_31 : decode cX5_morning 31 = .ok (.aload_n 0, 1) := by decide +kernel
theorem dX5_morning_32 : decode cX5_morning 32 = .ok (.getfield 144, 3) := by decide +kernel
theorem dX5_morning_35 : decode cX5_morning 35 = .ok (.if_icmp .ge 34, 3) := by decide +kernel
theorem dX5_morning_38 : decode cX5_morning 38 = .ok (.iload_n 1, 1) := by decide +kernel
theorem dX5_morning_39 : decode cX5_morning 39 = .ok (.aload_n 0, 1) := by decide +kernel
theorem dX5_morning_40 : decode cX5_morning 40 = .ok (.getfield 66, 3) := by decide +kernel
theorem dX5_morning_43 : decode cX5_morning 43 = .ok (.iload_n 2, 1) := by decide +kernel
theorem dX5_morning_44 : decode cX5_morning 44 = .ok (.baload, 1) := by decide +kernel
theorem dX5_morning_45 : decode cX5_morning 45 = .ok (.ifCond .eq 15, 3) := by decide +kernel
theorem dX5_morning_48 : decode cX5_morning 48 = .ok (.aload_n 0, 1) := by decide +kernel
theorem dX5_morning_49 : decode cX5_morning 49 = .ok (.iload_n 2, 1) := by decide +kernel
theorem dX5_morning_50 : decode cX5_morning 50 = .ok (.invokevirtual 153, 3) := by decide +kernel
theorem dX5_morning_53 : decode cX5_morning 53 = .ok (.ifCond .eq 7, 3) := by decide +kernel
theorem dX5_morning_56 : decode cX5_morning 56 = .ok (.iconst 1, 1) := by decide +kernel
theorem dX5_morning_57 : decode cX5_morning 57 = .ok (.goto 4, 3) := by decide +kernel
theorem dX5_morning_60 : decode cX5_morning 60 = .ok (.iconst 0, 1) := by decide +kernel
theorem dX5_morning_61 : decode cX5_morning 61 = .ok (.iadd, 1) := by decide +kernel
theorem dX5_morning_62 : decode cX5_morning 62 = .ok (.istore_n 1, 1) := by decide +kernel
theorem dX5_morning_63 : decode cX5_morning 63 = .ok (.iinc 2 1, 3) := by decide +kernel
theorem dX5_morning_66 : decode cX5_morning 66 = .ok (.goto (-36), 3) := by decide +kernel
theorem dX5_morning_69 : decode cX5_morning 69 = .ok (.iload_n 1, 1) := by decide +kernel
theorem dX5_morning_70 : decode cX5_morning 70 = .ok (.ireturn, 1) := by decide +kernel
theorem dX5_sold_0 : decode cX5_sold 0 = .ok (.aload_n 0, 1) := by decide +kernel
theorem dX5_sold_1 : decode cX5_sold 1 = .ok (.iconst 0, 1) := by decide +kernel
theorem dX5_sold_2 : decode cX5_sold 2 = .ok (.putfield 76, 3) := by decide +kernel
theorem dX5_sold_5 : decode cX5_sold 5 = .ok (.aload_n 0, 1) := by decide +kernel
theorem dX5_sold_6 : decode cX5_sold 6 = .ok (.getfield 147, 3) := by decide +kernel
theorem dX5_sold_9 : decode cX5_sold 9 = .ok (.ireturn, 1) := by decide +kernel
end
section
theorem dJ6_bitCount_0f7a4_0 : decode cJ6_bitCount_0f7a4 0 = .ok (.iload_n 0, 1) := by decide +kernel
theorem dJ6_bitCount_0f7a4_1 : decode cJ6_bitCount_0f7a4 1 = .ok (.iload_n 0, 1) := by decide +kernel
theorem dJ6_bitCount_0f7a4_2 : decode cJ6_bitCount_0f7a4 2 = .ok (.iconst 1, 1) := by decide +kernel
theorem dJ6_bitCount_0f7a4_3 : decode cJ6_bitCount_0f7a4 3 = .ok (.iushr, 1) := by decide +kernel
theorem dJ6_bitCount_0f7a4_4 : decode cJ6_bitCount_0f7a4 4 = .ok (.ldc_w 265, 3) := by decide +kernel
theorem dJ6_bitCount_0f7a4_7 : decode cJ6_bitCount_0f7a4 7 = .ok (.iand, 1) := by decide +kernel
theorem dJ6_bitCount_0f7a4_8 : decode cJ6_bitCount_0f7a4 8 = .ok (.isub, 1) := by decide +kernel
theorem dJ6_bitCount_0f7a4_9 : decode cJ6_bitCount_0f7a4 9 = .ok (.istore_n 0, 1) := by decide +kernel
theorem dJ6_bitCount_0f7a4_10 : decode cJ6_bitCount_0f7a4 10 = .ok (.iload_n 0, 1) := by decide +kernel
theorem dJ6_bitCount_0f7a4_11 : decode cJ6_bitCount_0f7a4 11 = .ok (.ldc_w 266, 3) := by decide +kernel
theorem dJ6_bitCount_0f7a4_14 : decode cJ6_bitCount_0f7a4 14 = .ok (.iand, 1) := by decide +kernel
theorem dJ6_bitCount_0f7a4_15 : decode cJ6_bitCount_0f7a4 15 = .ok (.iload_n 0, 1) := by decide +kernel
theorem dJ6_bitCount_0f7a4_16 : decode cJ6_bitCount_0f7a4 16 = .ok (.iconst 2, 1) := by decide +kernel
theorem dJ6_bitCount_0f7a4_17 : decode cJ6_bitCount_0f7a4 17 = .ok (.iushr, 1) := by decide +kernel
theorem dJ6_bitCount_0f7a4_18 : decode cJ6_bitCount_0f7a4 18 = .ok (.ldc_w 266, 3) := by decide +kernel
theorem dJ6_bitCount_0f7a4_21 : decode cJ6_bitCount_0f7a4 21 = .ok (.iand, 1) := by decide +kernel
theorem dJ6_bitCount_0f7a4_22 : decode cJ6_bitCount_0f7a4 22 = .ok (.iadd, 1) := by decide +kernel
theorem dJ6_bitCount_0f7a4_23 : decode cJ6_bitCount_0f7a4 23 = .ok (.istore_n 0, 1) := by decide +kernel
theorem dJ6_bitCount_0f7a4_24 : decode cJ6_bitCount_0f7a4 24 = .ok (.iload_n 0, 1) := by decide +kernel
theorem dJ6_bitCount_0f7a4_25 : decode cJ6_bitCount_0f7a4 25 = .ok (.iload_n 0, 1) := by decide +kernel
theorem dJ6_bitCount_0f7a4_26 : decode cJ6_bitCount_0f7a4 26 = .ok (.iconst 4, 1) := by decide +kernel
theorem dJ6_bitCount_0f7a4_27 : decode cJ6_bitCount_0f7a4 27 = .ok (.iushr, 1) := by decide +kernel
theorem dJ6_bitCount_0f7a4_28 : decode cJ6_bitCount_0f7a4 28 = .ok (.iadd, 1) := by decide +kernel
theorem dJ6_bitCount_0f7a4_29 : decode cJ6_bitCount_0f7a4 29 = .ok (.ldc_w 267, 3) := by decide +kernel
theorem dJ6_bitCount_0f7a4_32 : decode cJ6_bitCount_0f7a4 32 = .ok (.iand, 1) := by decide +kernel
theorem dJ6_bitCount_0f7a4_33 : decode cJ6_bitCount_0f7a4 33 = .ok (.istore_n 0, 1) := by decide +kernel
theorem dJ6_bitCount_0f7a4_34 : decode cJ6_bitCount_0f7a4 34 = .ok (.iload_n 0, 1) := by decide +kernel
theorem dJ6_bitCount_0f7a4_35 : decode cJ6_bitCount_0f7a4 35 = .ok (.iload_n 0, 1) := by decide +kernel
theorem dJ6_bitCount_0f7a4_36 : decode cJ6_bitCount_0f7a4 36 = .ok (.bipush 8, 2) := by decide +kernel
theorem dJ6_bitCount_0f7a4_38 : decode cJ6_bitCount_0f7a4 38 = .ok (.iushr, 1) := by decide +kernel
theorem dJ6_bitCount_0f7a4_39 : decode cJ6_bitCount_0f7a4 39 = .ok (.iadd, 1) := by decide +kernel
theorem dJ6_bitCount_0f7a4_40 : decode cJ6_bitCount_0f7a4 40 = .ok (.istore_n 0, 1) := by decide +kernel
theorem dJ6_bitCount_0f7a4_41 : decode cJ6_bitCount_0f7a4 41 = .ok (.iload_n 0, 1) := by decide +kernel
theorem dJ6_bitCount_0f7a4_42 : decode cJ6_bitCount_0f7a4 42 = .ok (.iload_n 0, 1) := by decide +kernel
theorem dJ6_bitCount_0f7a4_43 : decode cJ6_bitCount_0f7a4 43 = .ok (.bipush 16, 2) := by decide +kernel
theorem dJ6_bitCount_0f7a4_45 : decode cJ6_bitCount_0f7a4 45 = .ok (.iushr, 1) := by decide +kernel
theorem dJ6_bitCount_0f7a4_46 : decode cJ6_bitCount_0f7a4 46 = .ok (.iadd, 1) := by decide +kernel
theorem dJ6_bitCount_0f7a4_47 : decode cJ6_bitCount_0f7a4 47 = .ok (.istore_n 0, 1) := by decide +kernel
theorem dJ6_bitCount_0f7a4_48 : decode cJ6_bitCount_0f7a4 48 = .ok (.iload_n 0, 1) := by decide +kernel
theorem dJ6_bitCount_0f7a4_49 : decode cJ6_bitCount_0f7a4 49 = .ok (.bipush 63, 2) := by decide +kernel
theorem dJ6_bitCount_0f7a4_51 : decode cJ6_bitCount_0f7a4 51 = .ok (.iand, 1) := by decide +kernel
theorem dJ6_bitCount_0f7a4_52 : decode cJ6_bitCount_0f7a4 52 = .ok (.ireturn, 1) := by decide +kernel
theorem dJ9_max_7cf53_0 : decode cJ9_max_7cf53 0 = .ok (.iload_n 0, 1) := by decide +kernel
theorem dJ9_max_7cf53_1 : decode cJ9_max_7cf53 1 = .ok (.iload_n 1, 1) := by decide +kernel
theorem dJ9_max_7cf53_2 : decode cJ9_max_7cf53 2 = .ok (.if_icmp .lt 7, 3) := by decide +kernel
theorem dJ9_max_7cf53_5 : decode cJ9_max_7cf53 5 = .ok (.iload_n 0, 1) := by decide +kernel
theorem dJ9_max_7cf53_6 : decode cJ9_max_7cf53 6 = .ok (.goto 4, 3) := by decide +kernel
theorem dJ9_max_7cf53_9 : decode cJ9_max_7cf53 9 = .ok (.iload_n 1, 1) := by decide +kernel
theorem dJ9_max_7cf53_10 : decode cJ9_max_7cf53 10 = .ok (.ireturn, 1) := by decide +kernel
theorem dJ9_min_7cf53_0 : decode cJ9_min_7cf53 0 = .ok (.iload_n 0, 1) := by decide +kernel
theorem dJ9_min_7cf53_1 : decode cJ9_min_7cf53 1 = .ok (.iload_n 1, 1) := by decide +kernel
theorem dJ9_min_7cf53_2 : decode cJ9_min_7cf53 2 = .ok (.if_icmp .gt 7, 3) := by decide +kernel
theorem dJ9_min_7cf53_5 : decode cJ9_min_7cf53 5 = .ok (.iload_n 0, 1) := by decide +kernel
theorem dJ9_min_7cf53_6 : decode cJ9_min_7cf53 6 = .ok (.goto 4, 3) := by decide +kernel
theorem dJ9_min_7cf53_9 : decode cJ9_min_7cf53 9 = .ok (.iload_n 1, 1) := by decide +kernel
theorem dJ9_min_7cf53_10 : decode cJ9_min_7cf53 10 = .ok (.ireturn, 1) := by decide +kernel
set_option maxRecDepth 20000 in
theorem ggL_fund_X4_fund : GoodIn wsL_fund wsX4_fund := goodIn_ca (goodIn_ca (goodIn_ca (goodIn_r _ [8, 9, 10, 11, 12, 13, 14, 15, 16, 7, 17, 18, 19, 20, 21, 22, 23, 24, 25, 26, 27, 28, 29, 30, 31, 32, 33, 34, 35, 36, 37, 38, 39, 40, 41, 42, 43] (by decide +kernel) (by decide +kernel)) (goodIn_sub (fun _ h => List.mem_cons_of_mem _ (List.mem_append_left _ (List.mem_append_left _ (List.mem_append_right _ h)))) (by decide +kernel))) (goodIn_sub (fun _ h => List.mem_cons_of_mem _ (List.mem_append_left _ (List.mem_append_right _ h))) (by decide +kernel))) (goodIn_sub (fun _ h => List.mem_cons_of_mem _ (List.mem_append_right _ h)) (by decide +kernel))
set_option maxRecDepth 20000 in
theorem gL_fund_X4_fund : GoodIn wsL_fund (wsV RL 7 RX4 yX4_fund wsX4_fund) := goodIn_app (goodIn_of _ (by decide +kernel)) ggL_fund_X4_fund
theorem dL_fund_0 : decode cL_fund 0 = .ok (.aload_n 3, 1) := by decide +kernel
theorem dL_fund_1 : decode cL_fund 1 = .ok (.iconst 0, 1) := by decide +kernel
theorem dL_fund_2 : decode cL_fund 2 = .ok (.aload_n 0, 1) := by decide +kernel
theorem dL_fund_3 : decode cL_fund 3 = .ok (.iload_n 1, 1) := by decide +kernel
theorem dL_fund_4 : decode cL_fund 4 = .ok (.iload_n 2, 1) := by decide +kernel
theorem dL_fund_5 : decode cL_fund 5 = .ok (.invokevirtual 7, 3) := by decide +kernel
theorem dL_fund_8 : decode cL_fund 8 = .ok (.i2l, 1) := by decide +kernel
theorem dL_fund_9 : decode cL_fund 9 = .ok (.lastore, 1) := by decide +kernel
theorem dL_fund_10 : decode cL_fund 10 = .ok (.goto 15, 3) := by decide +kernel
theorem dL_fund_13 : decode cL_fund 13 = .ok (.astore 4, 2) := by decide +kernel
theorem dL_fund_15 : decode cL_fund 15 = .ok (.iconst 1, 1) := by decide +kernel
theorem dL_fund_16 : decode cL_fund 16 = .ok (.ireturn, 1) := by decide +kernel
theorem dL_fund_17 : decode cL_fund 17 = .ok (.astore 4, 2) := by decide +kernel
theorem dL_fund_19 : decode cL_fund 19 = .ok (.iconst 2, 1) := by decide +kernel
theorem dL_fund_20 : decode cL_fund 20 = .ok (.ireturn, 1) := by decide +kernel
theorem dL_fund_21 : decode cL_fund 21 = .ok (.astore 4, 2) := by decide +kernel
theorem dL_fund_23 : decode cL_fund 23 = .ok (.iconst 3, 1) := by decide +kernel
theorem dL_fund_24 : decode cL_fund 24 = .ok (.ireturn, 1) := by decide +kernel
theorem dL_fund_25 : decode cL_fund 25 = .ok (.iconst 0, 1) := by decide +kernel
theorem dL_fund_26 : decode cL_fund 26 = .ok (.ireturn, 1) := by decide +kernel
set_option maxRecDepth 20000 in
theorem ggL_setFloor_X4_setFloor : GoodIn wsL_setFloor wsX4_setFloor := goodIn_ca (goodIn_ca (goodIn_r _ [7, 8, 9, 10, 11, 12, 13, 14, 15, 16, 17, 18, 6, 19, 20, 21, 22, 23, 24, 25, 26, 27, 28, 29, 30, 31, 32, 33, 34, 35, 36, 37, 38, 39, 40, 41, 42] (by decide +kernel) (by decide +kernel)) (goodIn_sub (fun _ h => List.mem_cons_of_mem _ (List.mem_append_left _ (List.mem_append_right _ h))) (by decide +kernel))) (goodIn_sub (fun _ h => List.mem_cons_of_mem _ (List.mem_append_right _ h)) (by decide +kernel))
set_option maxRecDepth 20000 in
theorem gL_setFloor_X4_setFloor : GoodIn wsL_setFloor (wsV RL 19 RX4 yX4_setFloor wsX4_setFloor) := goodIn_app (goodIn_of _ (by decide +kernel)) ggL_setFloor_X4_setFloor
theorem dL_setFloor_0 : decode cL_setFloor 0 = .ok (.aload_n 3, 1) := by decide +kernel
theorem dL_setFloor_1 : decode cL_setFloor 1 = .ok (.iconst 0, 1) := by decide +kernel
theorem dL_setFloor_2 : decode cL_setFloor 2 = .ok (.aload_n 0, 1) := by decide +kernel
theorem dL_setFloor_3 : decode cL_setFloor 3 = .ok (.iload_n 1, 1) := by decide +kernel
theorem dL_setFloor_4 : decode cL_setFloor 4 = .ok (.iload_n 2, 1) := by decide +kernel
theorem dL_setFloor_5 : decode cL_setFloor 5 = .ok (.invokevirtual 19, 3) := by decide +kernel
theorem dL_setFloor_8 : decode cL_setFloor 8 = .ok (.i2l, 1) := by decide +kernel
theorem dL_setFloor_9 : decode cL_setFloor 9 = .ok (.lastore, 1) := by decide +kernel
theorem dL_setFloor_10 : decode cL_setFloor 10 = .ok (.goto 11, 3) := by decide +kernel
theorem dL_setFloor_13 : decode cL_setFloor 13 = .ok (.astore 4, 2) := by decide +kernel
theorem dL_setFloor_15 : decode cL_setFloor 15 = .ok (.iconst 1, 1) := by decide +kernel
theorem dL_setFloor_16 : decode cL_setFloor 16 = .ok (.ireturn, 1) := by decide +kernel
theorem dL_setFloor_17 : decode cL_setFloor 17 = .ok (.astore 4, 2) := by decide +kernel
theorem dL_setFloor_19 : decode cL_setFloor 19 = .ok (.iconst 2, 1) := by decide +kernel
theorem dL_setFloor_20 : decode cL_setFloor 20 = .ok (.ireturn, 1) := by decide +kernel
theorem dL_setFloor_21 : decode cL_setFloor 21 = .ok (.iconst 0, 1) := by decide +kernel
theorem dL_setFloor_22 : decode cL_setFloor 22 = .ok (.ireturn, 1) := by decide +kernel
set_option maxRecDepth 20000 in
theorem ggL_setBound_X4_setBound : GoodIn wsL_setBound wsX4_setBound := goodIn_ca (goodIn_ca (goodIn_r _ [7, 8, 9, 10, 11, 12, 13, 14, 15, 16, 17, 18, 6, 19, 20, 21, 22, 23, 24, 25, 26, 27, 28, 29, 30, 31, 32, 33, 34, 35, 36, 37, 38, 39, 40, 41, 42, 43, 44, 45, 46, 47, 48] (by decide +kernel) (by decide +kernel)) (goodIn_sub (fun _ h => List.mem_cons_of_mem _ (List.mem_append_left _ (List.mem_append_right _ h))) (by decide +kernel))) (goodIn_sub (fun _ h => List.mem_cons_of_mem _ (List.mem_append_right _ h)) (by decide +kernel))
set_option maxRecDepth 20000 in
theorem gL_setBound_X4_setBound : GoodIn wsL_setBound (wsV RL 22 RX4 yX4_setBound wsX4_setBound) := goodIn_app (goodIn_of _ (by decide +kernel)) ggL_setBound_X4_setBound
theorem dL_setBound_0 : decode cL_setBound 0 = .ok (.aload 4, 2) := by decide +kernel
theorem dL_setBound_2 : decode cL_setBound 2 = .ok (.iconst 0, 1) := by decide +kernel
theorem dL_setBound_3 : decode cL_setBound 3 = .ok (.aload_n 0, 1) := by decide +kernel
theorem dL_setBound_4 : decode cL_setBound 4 = .ok (.iload_n 1, 1) := by decide +kernel
theorem dL_setBound_5 : decode cL_setBound 5 = .ok (.iload_n 2, 1) := by decide +kernel
theorem dL_setBound_6 : decode cL_setBound 6 = .ok (.iload_n 3, 1) := by decide +kernel
theorem dL_setBound_7 : decode cL_setBound 7 = .ok (.invokevirtual 22, 3) := by decide +kernel
theorem dL_setBound_10 : decode cL_setBound 10 = .ok (.i2l, 1) := by decide +kernel
theorem dL_setBound_11 : decode cL_setBound 11 = .ok (.lastore, 1) := by decide +kernel
theorem dL_setBound_12 : decode cL_setBound 12 = .ok (.goto 11, 3) := by decide +kernel
theorem dL_setBound_15 : decode cL_setBound 15 = .ok (.astore 5, 2) := by decide +kernel
theorem dL_setBound_17 : decode cL_setBound 17 = .ok (.iconst 1, 1) := by decide +kernel
theorem dL_setBound_18 : decode cL_setBound 18 = .ok (.ireturn, 1) := by decide +kernel
theorem dL_setBound_19 : decode cL_setBound 19 = .ok (.astore 5, 2) := by decide +kernel
theorem dL_setBound_21 : decode cL_setBound 21 = .ok (.iconst 2, 1) := by decide +kernel
theorem dL_setBound_22 : decode cL_setBound 22 = .ok (.ireturn, 1) := by decide +kernel
theorem dL_setBound_23 : decode cL_setBound 23 = .ok (.iconst 0, 1) := by decide +kernel
theorem dL_setBound_24 : decode cL_setBound 24 = .ok (.ireturn, 1) := by decide +kernel
set_option maxRecDepth 20000 in
theorem ggL_givePapers_X4_givePapers : GoodIn wsL_givePapers wsX4_givePapers := goodIn_ca (goodIn_ca (goodIn_ca (goodIn_r _ [8, 9, 10, 11, 12, 13, 14, 7, 15, 16, 17, 18, 19, 20, 21, 22, 23, 24, 25, 26, 27, 28, 29, 30, 31, 32, 33, 34, 35, 36, 37, 38, 39] (by decide +kernel) (by decide +kernel)) (goodIn_sub (fun _ h => List.mem_cons_of_mem _ (List.mem_append_left _ (List.mem_append_left _ (List.mem_append_right _ h)))) (by decide +kernel))) (goodIn_sub (fun _ h => List.mem_cons_of_mem _ (List.mem_append_left _ (List.mem_append_right _ h))) (by decide +kernel))) (goodIn_sub (fun _ h => List.mem_cons_of_mem _ (List.mem_append_right _ h)) (by decide +kernel))
set_option maxRecDepth 20000 in
theorem gL_givePapers_X4_givePapers : GoodIn wsL_givePapers (wsV RL 26 RX4 yX4_givePapers wsX4_givePapers) := goodIn_app (goodIn_of _ (by decide +kernel)) ggL_givePapers_X4_givePapers
theorem dL_givePapers_0 : decode cL_givePapers 0 = .ok (.aload_n 3, 1) := by decide +kernel
theorem dL_givePapers_1 : decode cL_givePapers 1 = .ok (.iconst 0, 1) := by decide +kernel
theorem dL_givePapers_2 : decode cL_givePapers 2 = .ok (.aload_n 0, 1) := by decide +kernel
theorem dL_givePapers_3 : decode cL_givePapers 3 = .ok (.iload_n 1, 1) := by decide +kernel
theorem dL_givePapers_4 : decode cL_givePapers 4 = .ok (.iload_n 2, 1) := by decide +kernel
theorem dL_givePapers_5 : decode cL_givePapers 5 = .ok (.invokevirtual 26, 3) := by decide +kernel
theorem dL_givePapers_8 : decode cL_givePapers 8 = .ok (.i2l, 1) := by decide +kernel
theorem dL_givePapers_9 : decode cL_givePapers 9 = .ok (.lastore, 1) := by decide +kernel
theorem dL_givePapers_10 : decode cL_givePapers 10 = .ok (.goto 15, 3) := by decide +kernel
theorem dL_givePapers_13 : decode cL_givePapers 13 = .ok (.astore 4, 2) := by decide +kernel
theorem dL_givePapers_15 : decode cL_givePapers 15 = .ok (.iconst 1, 1) := by decide +kernel
theorem dL_givePapers_16 : decode cL_givePapers 16 = .ok (.ireturn, 1) := by decide +kernel
theorem dL_givePapers_17 : decode cL_givePapers 17 = .ok (.astore 4, 2) := by decide +kernel
theorem dL_givePapers_19 : decode cL_givePapers 19 = .ok (.iconst 2, 1) := by decide +kernel
theorem dL_givePapers_20 : decode cL_givePapers 20 = .ok (.ireturn, 1) := by decide +kernel
theorem dL_givePapers_21 : decode cL_givePapers 21 = .ok (.astore 4, 2) := by decide +kernel
theorem dL_givePapers_23 : decode cL_givePapers 23 = .ok (.iconst 3, 1) := by decide +kernel
theorem dL_givePapers_24 : decode cL_givePapers 24 = .ok (.ireturn, 1) := by decide +kernel
theorem dL_givePapers_25 : decode cL_givePapers 25 = .ok (.iconst 0, 1) := by decide +kernel
theorem dL_givePapers_26 : decode cL_givePapers 26 = .ok (.ireturn, 1) := by decide +kernel
set_option maxRecDepth 20000 in
theorem ggL_account_X4_account : GoodIn wsL_account wsX4_account := goodIn_ca (goodIn_r _ [6, 7, 8, 9, 10, 5, 11, 12, 13, 14, 15, 16, 17, 18, 19, 20, 21, 22, 23, 24, 25, 26, 27] (by decide +kernel) (by decide +kernel)) (goodIn_sub (fun _ h => List.mem_cons_of_mem _ (List.mem_append_right _ h)) (by decide +kernel))
set_option maxRecDepth 20000 in
theorem gL_account_X4_account : GoodIn wsL_account (wsV RL 29 RX4 yX4_account wsX4_account) := goodIn_app (goodIn_of _ (by decide +kernel)) ggL_account_X4_account
theorem dL_account_0 : decode cL_account 0 = .ok (.aload_n 2, 1) := by decide +kernel
theorem dL_account_1 : decode cL_account 1 = .ok (.iconst 0, 1) := by decide +kernel
theorem dL_account_2 : decode cL_account 2 = .ok (.aload_n 0, 1) := by decide +kernel
theorem dL_account_3 : decode cL_account 3 = .ok (.iload_n 1, 1) := by decide +kernel
theorem dL_account_4 : decode cL_account 4 = .ok (.invokevirtual 29, 3) := by decide +kernel
theorem dL_account_7 : decode cL_account 7 = .ok (.i2l, 1) := by decide +kernel
theorem dL_account_8 : decode cL_account 8 = .ok (.lastore, 1) := by decide +kernel
theorem dL_account_9 : decode cL_account 9 = .ok (.goto 6, 3) := by decide +kernel
theorem dL_account_12 : decode cL_account 12 = .ok (.astore_n 3, 1) := by decide +kernel
theorem dL_account_13 : decode cL_account 13 = .ok (.iconst 1, 1) := by decide +kernel
theorem dL_account_14 : decode cL_account 14 = .ok (.ireturn, 1) := by decide +kernel
theorem dL_account_15 : decode cL_account 15 = .ok (.iconst 0, 1) := by decide +kernel
theorem dL_account_16 : decode cL_account 16 = .ok (.ireturn, 1) := by decide +kernel
set_option maxRecDepth 20000 in
theorem ggL_papers_X4_papers : GoodIn wsL_papers wsX4_papers := goodIn_ca (goodIn_r _ [6, 7, 8, 9, 5, 10, 11, 12, 13, 14, 15, 16, 17, 18, 19, 20, 21, 22, 23, 24] (by decide +kernel) (by decide +kernel)) (goodIn_sub (fun _ h => List.mem_cons_of_mem _ (List.mem_append_right _ h)) (by decide +kernel))
set_option maxRecDepth 20000 in
theorem gL_papers_X4_papers : GoodIn wsL_papers (wsV RL 33 RX4 yX4_papers wsX4_papers) := goodIn_app (goodIn_of _ (by decide +kernel)) ggL_papers_X4_papers
theorem dL_papers_0 : decode cL_papers 0 = .ok (.aload_n 2, 1) := by decide +kernel
theorem dL_papers_1 : decode cL_papers 1 = .ok (.iconst 0, 1) := by decide +kernel
theorem dL_papers_2 : decode cL_papers 2 = .ok (.aload_n 0, 1) := by decide +kernel
theorem dL_papers_3 : decode cL_papers 3 = .ok (.iload_n 1, 1) := by decide +kernel
theorem dL_papers_4 : decode cL_papers 4 = .ok (.invokevirtual 33, 3) := by decide +kernel
theorem dL_papers_7 : decode cL_papers 7 = .ok (.i2l, 1) := by decide +kernel
theorem dL_papers_8 : decode cL_papers 8 = .ok (.lastore, 1) := by decide +kernel
theorem dL_papers_9 : decode cL_papers 9 = .ok (.goto 6, 3) := by decide +kernel
theorem dL_papers_12 : decode cL_papers 12 = .ok (.astore_n 3, 1) := by decide +kernel
theorem dL_papers_13 : decode cL_papers 13 = .ok (.iconst 1, 1) := by decide +kernel
theorem dL_papers_14 : decode cL_papers 14 = .ok (.ireturn, 1) := by decide +kernel
theorem dL_papers_15 : decode cL_papers 15 = .ok (.iconst 0, 1) := by decide +kernel
theorem dL_papers_16 : decode cL_papers 16 = .ok (.ireturn, 1) := by decide +kernel
set_option maxRecDepth 20000 in
theorem ggL_isOpen_X4_isOpen : GoodIn wsL_isOpen wsX4_isOpen := goodIn_ca (goodIn_r _ [6, 7, 8, 9, 5, 10, 11, 12, 13, 14, 15, 16, 17, 18, 19, 20, 21, 22, 23, 24] (by decide +kernel) (by decide +kernel)) (goodIn_sub (fun _ h => List.mem_cons_of_mem _ (List.mem_append_right _ h)) (by decide +kernel))
set_option maxRecDepth 20000 in
theorem gL_isOpen_X4_isOpen : GoodIn wsL_isOpen (wsV RL 36 RX4 yX4_isOpen wsX4_isOpen) := goodIn_app (goodIn_of _ (by decide +kernel)) ggL_isOpen_X4_isOpen
theorem dL_isOpen_0 : decode cL_isOpen 0 = .ok (.aload_n 2, 1) := by decide +kernel
theorem dL_isOpen_1 : decode cL_isOpen 1 = .ok (.iconst 0, 1) := by decide +kernel
theorem dL_isOpen_2 : decode cL_isOpen 2 = .ok (.aload_n 0, 1) := by decide +kernel
theorem dL_isOpen_3 : decode cL_isOpen 3 = .ok (.iload_n 1, 1) := by decide +kernel
theorem dL_isOpen_4 : decode cL_isOpen 4 = .ok (.invokevirtual 36, 3) := by decide +kernel
theorem dL_isOpen_7 : decode cL_isOpen 7 = .ok (.ifCond .eq 7, 3) := by decide +kernel
theorem dL_isOpen_10 : decode cL_isOpen 10 = .ok (.lconst 1, 1) := by decide +kernel
theorem dL_isOpen_11 : decode cL_isOpen 11 = .ok (.goto 4, 3) := by decide +kernel
theorem dL_isOpen_14 : decode cL_isOpen 14 = .ok (.lconst 0, 1) := by decide +kernel
theorem dL_isOpen_15 : decode cL_isOpen 15 = .ok (.lastore, 1) := by decide +kernel
theorem dL_isOpen_16 : decode cL_isOpen 16 = .ok (.goto 6, 3) := by decide +kernel
theorem dL_isOpen_19 : decode cL_isOpen 19 = .ok (.astore_n 3, 1) := by decide +kernel
theorem dL_isOpen_20 : decode cL_isOpen 20 = .ok (.iconst 1, 1) := by decide +kernel
theorem dL_isOpen_21 : decode cL_isOpen 21 = .ok (.ireturn, 1) := by decide +kernel
theorem dL_isOpen_22 : decode cL_isOpen 22 = .ok (.iconst 0, 1) := by decide +kernel
theorem dL_isOpen_23 : decode cL_isOpen 23 = .ok (.ireturn, 1) := by decide +kernel
set_option maxRecDepth 20000 in
theorem ggL_paid_X4_paid : GoodIn wsL_paid wsX4_paid := goodIn_ca (goodIn_r _ [6, 7, 8, 9, 10, 5, 11, 12, 13, 14, 15, 16, 17, 18, 19, 20, 21, 22, 23, 24, 25, 26, 27, 28, 29, 30] (by decide +kernel) (by decide +kernel)) (goodIn_sub (fun _ h => List.mem_cons_of_mem _ (List.mem_append_right _ h)) (by decide +kernel))
set_option maxRecDepth 20000 in
theorem gL_paid_X4_paid : GoodIn wsL_paid (wsV RL 40 RX4 yX4_paid wsX4_paid) := goodIn_app (goodIn_of _ (by decide +kernel)) ggL_paid_X4_paid
theorem dL_paid_0 : decode cL_paid 0 = .ok (.aload_n 3, 1) := by decide +kernel
theorem dL_paid_1 : decode cL_paid 1 = .ok (.iconst 0, 1) := by decide +kernel
theorem dL_paid_2 : decode cL_paid 2 = .ok (.aload_n 0, 1) := by decide +kernel
theorem dL_paid_3 : decode cL_paid 3 = .ok (.iload_n 1, 1) := by decide +kernel
theorem dL_paid_4 : decode cL_paid 4 = .ok (.iload_n 2, 1) := by decide +kernel
theorem dL_paid_5 : decode cL_paid 5 = .ok (.invokevirtual 40, 3) := by decide +kernel
theorem dL_paid_8 : decode cL_paid 8 = .ok (.i2l, 1) := by decide +kernel
theorem dL_paid_9 : decode cL_paid 9 = .ok (.lastore, 1) := by decide +kernel
theorem dL_paid_10 : decode cL_paid 10 = .ok (.goto 7, 3) := by decide +kernel
theorem dL_paid_13 : decode cL_paid 13 = .ok (.astore 4, 2) := by decide +kernel
theorem dL_paid_15 : decode cL_paid 15 = .ok (.iconst 1, 1) := by decide +kernel
theorem dL_paid_16 : decode cL_paid 16 = .ok (.ireturn, 1) := by decide +kernel
theorem dL_paid_17 : decode cL_paid 17 = .ok (.iconst 0, 1) := by decide +kernel
theorem dL_paid_18 : decode cL_paid 18 = .ok (.ireturn, 1) := by decide +kernel
set_option maxRecDepth 20000 in
theorem ggL_pay_X4_pay : GoodIn wsL_pay wsX4_pay := goodIn_ca (goodIn_ca (goodIn_ca (goodIn_r _ [8, 9, 10, 11, 12, 13, 14, 15, 7, 16, 17, 18, 19, 20, 21, 22, 23, 24, 25, 26, 27, 28, 29, 30, 31, 32, 33, 34, 35, 36, 37, 38, 39, 40, 41, 42, 43, 44, 45, 46, 47, 48, 49, 50, 51, 52, 53, 54, 55, 56, 57, 58, 59, 60, 61, 62] (by decide +kernel) (by decide +kernel)) (goodIn_sub (fun _ h => List.mem_cons_of_mem _ (List.mem_append_left _ (List.mem_append_left _ (List.mem_append_right _ h)))) (by decide +kernel))) (goodIn_sub (fun _ h => List.mem_cons_of_mem _ (List.mem_append_left _ (List.mem_append_right _ h))) (by decide +kernel))) (goodIn_sub (fun _ h => List.mem_cons_of_mem _ (List.mem_append_right _ h)) (by decide +kernel))
set_option maxRecDepth 20000 in
theorem gL_pay_X4_pay : GoodIn wsL_pay (wsV RL 43 RX4 yX4_pay wsX4_pay) := goodIn_app (goodIn_of _ (by decide +kernel)) ggL_pay_X4_pay
theorem dL_pay_0 : decode cL_pay 0 = .ok (.aload 5, 2) := by decide +kernel
theorem dL_pay_2 : decode cL_pay 2 = .ok (.iconst 0, 1) := by decide +kernel
theorem dL_pay_3 : decode cL_pay 3 = .ok (.aload_n 0, 1) := by decide +kernel
theorem dL_pay_4 : decode cL_pay 4 = .ok (.iload_n 1, 1) := by decide +kernel
theorem dL_pay_5 : decode cL_pay 5 = .ok (.iload_n 2, 1) := by decide +kernel
theorem dL_pay_6 : decode cL_pay 6 = .ok (.iload_n 3, 1) := by decide +kernel
theorem dL_pay_7 : decode cL_pay 7 = .ok (.iload 4, 2) := by decide +kernel
theorem dL_pay_9 : decode cL_pay 9 = .ok (.invokevirtual 43, 3) := by decide +kernel
theorem dL_pay_12 : decode cL_pay 12 = .ok (.i2l, 1) := by decide +kernel
theorem dL_pay_13 : decode cL_pay 13 = .ok (.lastore, 1) := by decide +kernel
theorem dL_pay_14 : decode cL_pay 14 = .ok (.goto 15, 3) := by decide +kernel
theorem dL_pay_17 : decode cL_pay 17 = .ok (.astore 6, 2) := by decide +kernel
theorem dL_pay_19 : decode cL_pay 19 = .ok (.iconst 1, 1) := by decide +kernel
theorem dL_pay_20 : decode cL_pay 20 = .ok (.ireturn, 1) := by decide +kernel
theorem dL_pay_21 : decode cL_pay 21 = .ok (.astore 6, 2) := by decide +kernel
theorem dL_pay_23 : decode cL_pay 23 = .ok (.iconst 2, 1) := by decide +kernel
theorem dL_pay_24 : decode cL_pay 24 = .ok (.ireturn, 1) := by decide +kernel
theorem dL_pay_25 : decode cL_pay 25 = .ok (.astore 6, 2) := by decide +kernel
theorem dL_pay_27 : decode cL_pay 27 = .ok (.iconst 3, 1) := by decide +kernel
theorem dL_pay_28 : decode cL_pay 28 = .ok (.ireturn, 1) := by decide +kernel
theorem dL_pay_29 : decode cL_pay 29 = .ok (.iconst 0, 1) := by decide +kernel
theorem dL_pay_30 : decode cL_pay 30 = .ok (.ireturn, 1) := by decide +kernel
set_option maxRecDepth 20000 in
theorem ggL_drop_X4_drop : GoodIn wsL_drop wsX4_drop := goodIn_ca (goodIn_ca (goodIn_r _ [7, 8, 9, 10, 11, 12, 13, 14, 6, 15, 16, 17, 18, 19, 20, 21, 22, 23, 24, 25, 26, 27, 28, 29, 30, 31, 32, 33, 34, 35, 36, 37, 38, 39, 40, 41, 42, 43, 44] (by decide +kernel) (by decide +kernel)) (goodIn_sub (fun _ h => List.mem_cons_of_mem _ (List.mem_append_left _ (List.mem_append_right _ h))) (by decide +kernel))) (goodIn_sub (fun _ h => List.mem_cons_of_mem _ (List.mem_append_right _ h)) (by decide +kernel))
set_option maxRecDepth 20000 in
theorem gL_drop_X4_drop : GoodIn wsL_drop (wsV RL 47 RX4 yX4_drop wsX4_drop) := goodIn_app (goodIn_of _ (by decide +kernel)) ggL_drop_X4_drop
theorem dL_drop_0 : decode cL_drop 0 = .ok (.aload_n 2, 1) := by decide +kernel
theorem dL_drop_1 : decode cL_drop 1 = .ok (.iconst 0, 1) := by decide +kernel
theorem dL_drop_2 : decode cL_drop 2 = .ok (.aload_n 0, 1) := by decide +kernel
theorem dL_drop_3 : decode cL_drop 3 = .ok (.iload_n 1, 1) := by decide +kernel
theorem dL_drop_4 : decode cL_drop 4 = .ok (.invokevirtual 47, 3) := by decide +kernel
theorem dL_drop_7 : decode cL_drop 7 = .ok (.i2l, 1) := by decide +kernel
theorem dL_drop_8 : decode cL_drop 8 = .ok (.lastore, 1) := by decide +kernel
theorem dL_drop_9 : decode cL_drop 9 = .ok (.goto 9, 3) := by decide +kernel
theorem dL_drop_12 : decode cL_drop 12 = .ok (.astore_n 3, 1) := by decide +kernel
theorem dL_drop_13 : decode cL_drop 13 = .ok (.iconst 1, 1) := by decide +kernel
theorem dL_drop_14 : decode cL_drop 14 = .ok (.ireturn, 1) := by decide +kernel
theorem dL_drop_15 : decode cL_drop 15 = .ok (.astore_n 3, 1) := by decide +kernel
theorem dL_drop_16 : decode cL_drop 16 = .ok (.iconst 2, 1) := by decide +kernel
theorem dL_drop_17 : decode cL_drop 17 = .ok (.ireturn, 1) := by decide +kernel
theorem dL_drop_18 : decode cL_drop 18 = .ok (.iconst 0, 1) := by decide +kernel
theorem dL_drop_19 : decode cL_drop 19 = .ok (.ireturn, 1) := by decide +kernel
set_option maxRecDepth 20000 in
theorem ggL_setSmall_X4_setSmall : GoodIn wsL_setSmall wsX4_setSmall := goodIn_ca (goodIn_r _ [6, 7, 8, 9, 10, 5, 11, 12, 13, 14, 15, 16, 17, 18, 19, 20, 21, 22, 23, 24, 25] (by decide +kernel) (by decide +kernel)) (goodIn_sub (fun _ h => List.mem_cons_of_mem _ (List.mem_append_right _ h)) (by decide +kernel))
set_option maxRecDepth 20000 in
theorem gL_setSmall_X4_setSmall : GoodIn wsL_setSmall (wsV RL 50 RX4 yX4_setSmall wsX4_setSmall) := goodIn_app (goodIn_of _ (by decide +kernel)) ggL_setSmall_X4_setSmall
theorem dL_setSmall_0 : decode cL_setSmall 0 = .ok (.aload_n 2, 1) := by decide +kernel
theorem dL_setSmall_1 : decode cL_setSmall 1 = .ok (.iconst 0, 1) := by decide +kernel
theorem dL_setSmall_2 : decode cL_setSmall 2 = .ok (.aload_n 0, 1) := by decide +kernel
theorem dL_setSmall_3 : decode cL_setSmall 3 = .ok (.iload_n 1, 1) := by decide +kernel
theorem dL_setSmall_4 : decode cL_setSmall 4 = .ok (.invokevirtual 50, 3) := by decide +kernel
theorem dL_setSmall_7 : decode cL_setSmall 7 = .ok (.i2l, 1) := by decide +kernel
theorem dL_setSmall_8 : decode cL_setSmall 8 = .ok (.lastore, 1) := by decide +kernel
theorem dL_setSmall_9 : decode cL_setSmall 9 = .ok (.goto 6, 3) := by decide +kernel
theorem dL_setSmall_12 : decode cL_setSmall 12 = .ok (.astore_n 3, 1) := by decide +kernel
theorem dL_setSmall_13 : decode cL_setSmall 13 = .ok (.iconst 1, 1) := by decide +kernel
theorem dL_setSmall_14 : decode cL_setSmall 14 = .ok (.ireturn, 1) := by decide +kernel
theorem dL_setSmall_15 : decode cL_setSmall 15 = .ok (.iconst 0, 1) := by decide +kernel
theorem dL_setSmall_16 : decode cL_setSmall 16 = .ok (.ireturn, 1) := by decide +kernel
set_option maxRecDepth 20000 in
theorem ggL_queued_X4_queued : GoodIn wsL_queued wsX4_queued := goodIn_ca (goodIn_r _ [6, 7, 8, 9, 10, 11, 5, 12, 13, 14, 15, 16, 17, 18, 19, 20, 21, 22, 23, 24, 25, 26, 27, 28, 29, 30, 31, 32, 33, 34, 35, 36, 37, 38, 39, 40, 41, 42, 43, 44] (by decide +kernel) (by decide +kernel)) (goodIn_sub (fun _ h => List.mem_cons_of_mem _ (List.mem_append_right _ h)) (by decide +kernel))
set_option maxRecDepth 20000 in
theorem gL_queued_X4_queued : GoodIn wsL_queued (wsV RL 53 RX4 yX4_queued wsX4_queued) := goodIn_app (goodIn_of _ (by decide +kernel)) ggL_queued_X4_queued
theorem dL_queued_0 : decode cL_queued 0 = .ok (.aload_n 3, 1) := by decide +kernel
theorem dL_queued_1 : decode cL_queued 1 = .ok (.iconst 0, 1) := by decide +kernel
theorem dL_queued_2 : decode cL_queued 2 = .ok (.aload_n 0, 1) := by decide +kernel
theorem dL_queued_3 : decode cL_queued 3 = .ok (.iload_n 1, 1) := by decide +kernel
theorem dL_queued_4 : decode cL_queued 4 = .ok (.iload_n 2, 1) := by decide +kernel
theorem dL_queued_5 : decode cL_queued 5 = .ok (.invokevirtual 53, 3) := by decide +kernel
theorem dL_queued_8 : decode cL_queued 8 = .ok (.i2l, 1) := by decide +kernel
theorem dL_queued_9 : decode cL_queued 9 = .ok (.lastore, 1) := by decide +kernel
theorem dL_queued_10 : decode cL_queued 10 = .ok (.goto 7, 3) := by decide +kernel
theorem dL_queued_13 : decode cL_queued 13 = .ok (.astore 4, 2) := by decide +kernel
theorem dL_queued_15 : decode cL_queued 15 = .ok (.iconst 1, 1) := by decide +kernel
theorem dL_queued_16 : decode cL_queued 16 = .ok (.ireturn, 1) := by decide +kernel
theorem dL_queued_17 : decode cL_queued 17 = .ok (.iconst 0, 1) := by decide +kernel
theorem dL_queued_18 : decode cL_queued 18 = .ok (.ireturn, 1) := by decide +kernel
set_option maxRecDepth 20000 in
theorem ggL_why_X4_why : GoodIn wsL_why wsX4_why := goodIn_ca (goodIn_r _ [6, 7, 8, 9, 5, 10, 11, 12, 13, 14, 15, 16, 17, 18, 19, 20, 21, 22, 23, 24, 25, 26, 27, 28, 29, 30, 31, 32, 33, 34, 35, 36, 37, 38, 39, 40, 41, 42, 43, 44, 45, 46, 47, 48, 49, 50, 51, 52, 53, 54] (by decide +kernel) (by decide +kernel)) (goodIn_sub (fun _ h => List.mem_cons_of_mem _ (List.mem_append_right _ h)) (by decide +kernel))
set_option maxRecDepth 20000 in
theorem gL_why_X4_why : GoodIn wsL_why (wsV RL 56 RX4 yX4_why wsX4_why) := goodIn_app (goodIn_of _ (by decide +kernel)) ggL_why_X4_why
theorem dL_why_0 : decode cL_why 0 = .ok (.aload_n 2, 1) := by decide +kernel
theorem dL_why_1 : decode cL_why 1 = .ok (.iconst 0, 1) := by decide +kernel
theorem dL_why_2 : decode cL_why 2 = .ok (.aload_n 0, 1) := by decide +kernel
theorem dL_why_3 : decode cL_why 3 = .ok (.iload_n 1, 1) := by decide +kernel
theorem dL_why_4 : decode cL_why 4 = .ok (.invokevirtual 56, 3) := by decide +kernel
theorem dL_why_7 : decode cL_why 7 = .ok (.i2l, 1) := by decide +kernel
theorem dL_why_8 : decode cL_why 8 = .ok (.lastore, 1) := by decide +kernel
theorem dL_why_9 : decode cL_why 9 = .ok (.goto 6, 3) := by decide +kernel
theorem dL_why_12 : decode cL_why 12 = .ok (.astore_n 3, 1) := by decide +kernel
theorem dL_why_13 : decode cL_why 13 = .ok (.iconst 1, 1) := by decide +kernel
theorem dL_why_14 : decode cL_why 14 = .ok (.ireturn, 1) := by decide +kernel
theorem dL_why_15 : decode cL_why 15 = .ok (.iconst 0, 1) := by decide +kernel
theorem dL_why_16 : decode cL_why 16 = .ok (.ireturn, 1) := by decide +kernel
set_option maxRecDepth 20000 in
theorem ggL_canAny_X4_canAny : GoodIn wsL_canAny wsX4_canAny := goodIn_ca (goodIn_r _ [6, 7, 8, 9, 10, 11, 12, 13, 14, 15, 16, 17, 18, 19, 5, 20, 21, 22, 23, 24, 25, 26, 27, 28, 29, 30, 31, 32, 33, 34, 35, 36, 37, 38, 39, 40, 41, 42, 43, 44, 45, 46, 47, 48, 49, 50, 51, 52, 53, 54, 55, 56, 57, 58, 59, 60, 61, 62, 63, 64, 65, 66, 67, 68, 69, 70, 71, 72, 73, 74, 75, 76, 77, 78, 79, 80, 81, 82, 83, 84, 85, 86, 87, 88, 89, 90, 91, 92, 93] (by decide +kernel) (by decide +kernel)) (goodIn_sub (fun _ h => List.mem_cons_of_mem _ (List.mem_append_right _ h)) (by decide +kernel))
set_option maxRecDepth 20000 in
theorem gL_canAny_X4_canAny : GoodIn wsL_canAny (wsV RL 59 RX4 yX4_canAny wsX4_canAny) := goodIn_app (goodIn_of _ (by decide +kernel)) ggL_canAny_X4_canAny
theorem dL_canAny_0 : decode cL_canAny 0 = .ok (.aload_n 1, 1) := by decide +kernel
theorem dL_canAny_1 : decode cL_canAny 1 = .ok (.iconst 0, 1) := by decide +kernel
theorem dL_canAny_2 : decode cL_canAny 2 = .ok (.aload_n 0, 1) := by decide +kernel
theorem dL_canAny_3 : decode cL_canAny 3 = .ok (.invokevirtual 59, 3) := by decide +kernel
theorem dL_canAny_6 : decode cL_canAny 6 = .ok (.ifCond .eq 7, 3) := by decide +kernel
theorem dL_canAny_9 : decode cL_canAny 9 = .ok (.lconst 1, 1) := by decide +kernel
theorem dL_canAny_10 : decode cL_canAny 10 = .ok (.goto 4, 3) := by decide +kernel
theorem dL_canAny_13 : decode cL_canAny 13 = .ok (.lconst 0, 1) := by decide +kernel
theorem dL_canAny_14 : decode cL_canAny 14 = .ok (.lastore, 1) := by decide +kernel
theorem dL_canAny_15 : decode cL_canAny 15 = .ok (.goto 6, 3) := by decide +kernel
theorem dL_canAny_18 : decode cL_canAny 18 = .ok (.astore_n 2, 1) := by decide +kernel
theorem dL_canAny_19 : decode cL_canAny 19 = .ok (.iconst 1, 1) := by decide +kernel
theorem dL_canAny_20 : decode cL_canAny 20 = .ok (.ireturn, 1) := by decide +kernel
theorem dL_canAny_21 : decode cL_canAny 21 = .ok (.iconst 0, 1) := by decide +kernel
theorem dL_canAny_22 : decode cL_canAny 22 = .ok (.ireturn, 1) := by decide +kernel
set_option maxRecDepth 20000 in
theorem ggL_setPrice_X4_setPrice : GoodIn wsL_setPrice wsX4_setPrice := goodIn_ca (goodIn_r _ [6, 7, 8, 9, 10, 5, 11, 12, 13, 14, 15, 16, 17, 18, 19, 20, 21, 22, 23, 24, 25] (by decide +kernel) (by decide +kernel)) (goodIn_sub (fun _ h => List.mem_cons_of_mem _ (List.mem_append_right _ h)) (by decide +kernel))
set_option maxRecDepth 20000 in
theorem gL_setPrice_X4_setPrice : GoodIn wsL_setPrice (wsV RL 63 RX4 yX4_setPrice wsX4_setPrice) := goodIn_app (goodIn_of _ (by decide +kernel)) ggL_setPrice_X4_setPrice
theorem dL_setPrice_0 : decode cL_setPrice 0 = .ok (.aload_n 0, 1) := by decide +kernel
theorem dL_setPrice_1 : decode cL_setPrice 1 = .ok (.iload_n 1, 1) := by decide +kernel
theorem dL_setPrice_2 : decode cL_setPrice 2 = .ok (.iload_n 2, 1) := by decide +kernel
theorem dL_setPrice_3 : decode cL_setPrice 3 = .ok (.invokevirtual 63, 3) := by decide +kernel
theorem dL_setPrice_6 : decode cL_setPrice 6 = .ok (.goto 6, 3) := by decide +kernel
theorem dL_setPrice_9 : decode cL_setPrice 9 = .ok (.astore_n 3, 1) := by decide +kernel
theorem dL_setPrice_10 : decode cL_setPrice 10 = .ok (.iconst 1, 1) := by decide +kernel
theorem dL_setPrice_11 : decode cL_setPrice 11 = .ok (.ireturn, 1) := by decide +kernel
theorem dL_setPrice_12 : decode cL_setPrice 12 = .ok (.iconst 0, 1) := by decide +kernel
theorem dL_setPrice_13 : decode cL_setPrice 13 = .ok (.ireturn, 1) := by decide +kernel
set_option maxRecDepth 20000 in
theorem ggL_lend_X4_lend : GoodIn wsL_lend wsX4_lend := goodIn_ca (goodIn_ca (goodIn_ca (goodIn_r _ [8, 9, 10, 11, 12, 13, 14, 7, 15, 16, 17, 18, 19, 20, 21, 22, 23, 24, 25, 26, 27, 28, 29, 30, 31, 32, 33, 34, 35, 36, 37, 38, 39, 40, 41, 42, 43, 44, 45, 46, 47, 48, 49, 50, 51, 52, 53, 54, 55, 56, 57, 58, 59, 60, 61, 62, 63, 64, 65, 66, 67, 68, 69, 70, 71, 72, 73, 74, 75, 76, 77, 78, 79, 80, 81, 82, 83, 84] (by decide +kernel) (by decide +kernel)) (goodIn_sub (fun _ h => List.mem_cons_of_mem _ (List.mem_append_left _ (List.mem_append_left _ (List.mem_append_right _ h)))) (by decide +kernel))) (goodIn_sub (fun _ h => List.mem_cons_of_mem _ (List.mem_append_left _ (List.mem_append_right _ h))) (by decide +kernel))) (goodIn_sub (fun _ h => List.mem_cons_of_mem _ (List.mem_append_right _ h)) (by decide +kernel))
set_option maxRecDepth 20000 in
theorem gL_lend_X4_lend : GoodIn wsL_lend (wsV RL 67 RX4 yX4_lend wsX4_lend) := goodIn_app (goodIn_of _ (by decide +kernel)) ggL_lend_X4_lend
theorem dL_lend_0 : decode cL_lend 0 = .ok (.aload 6, 2) := by decide +kernel
theorem dL_lend_2 : decode cL_lend 2 = .ok (.iconst 0, 1) := by decide +kernel
theorem dL_lend_3 : decode cL_lend 3 = .ok (.aload_n 0, 1) := by decide +kernel
theorem dL_lend_4 : decode cL_lend 4 = .ok (.iload_n 1, 1) := by decide +kernel
theorem dL_lend_5 : decode cL_lend 5 = .ok (.iload_n 2, 1) := by decide +kernel
theorem dL_lend_6 : decode cL_lend 6 = .ok (.iload_n 3, 1) := by decide +kernel
theorem dL_lend_7 : decode cL_lend 7 = .ok (.iload 4, 2) := by decide +kernel
theorem dL_lend_9 : decode cL_lend 9 = .ok (.iload 5, 2) := by decide +kernel
theorem dL_lend_11 : decode cL_lend 11 = .ok (.invokevirtual 67, 3) := by decide +kernel
theorem dL_lend_14 : decode cL_lend 14 = .ok (.i2l, 1) := by decide +kernel
theorem dL_lend_15 : decode cL_lend 15 = .ok (.lastore, 1) := by decide +kernel
theorem dL_lend_16 : decode cL_lend 16 = .ok (.goto 15, 3) := by decide +kernel
theorem dL_lend_19 : decode cL_lend 19 = .ok (.astore 7, 2) := by decide +kernel
theorem dL_lend_21 : decode cL_lend 21 = .ok (.iconst 1, 1) := by decide +kernel
theorem dL_lend_22 : decode cL_lend 22 = .ok (.ireturn, 1) := by decide +kernel
theorem dL_lend_23 : decode cL_lend 23 = .ok (.astore 7, 2) := by decide +kernel
theorem dL_lend_25 : decode cL_lend 25 = .ok (.iconst 2, 1) := by decide +kernel
theorem dL_lend_26 : decode cL_lend 26 = .ok (.ireturn, 1) := by decide +kernel
theorem dL_lend_27 : decode cL_lend 27 = .ok (.astore 7, 2) := by decide +kernel
theorem dL_lend_29 : decode cL_lend 29 = .ok (.iconst 3, 1) := by decide +kernel
theorem dL_lend_30 : decode cL_lend 30 = .ok (.ireturn, 1) := by decide +kernel
theorem dL_lend_31 : decode cL_lend 31 = .ok (.iconst 0, 1) := by decide +kernel
theorem dL_lend_32 : decode cL_lend 32 = .ok (.ireturn, 1) := by decide +kernel
end
section
/-! The Z layer: a frame seen as a world and a list of locals; a row an instruction, a row a call. -/
section ZZ
def zStr : List (Nat × String) := [(195, "there is no such bank"), (202, "a value is out of range"), (204, "the bank is closed"), (79, "the account would be too large"), (199, "both banks are the same"), (111, "the bank would have too many papers"), (116, "there are no more payments to be had"), (206, "there is no such payment"), (128, "the payment does not wait"), (142, "there is no such place"), (152, "too many payments wait"), (208, "there are no more loans to be had"), (213, "the pledge does not cover the loan"), (215, "the lender would be below its floor")]
def zEI : String := "java/lang/IndexOutOfBoundsException"
def zEA : String := "java/lang/IllegalArgumentException"
def zES : String := "java/lang/IllegalStateException"
def zEs : List String := ["java/lang/IndexOutOfBoundsException", "java/lang/IllegalArgumentException", "java/lang/IllegalStateException"]
def zNcs : List (String × String) := [("java/lang/IllegalArgumentException", "java/lang/IndexOutOfBoundsException"), ("java/lang/IllegalStateException", "java/lang/IndexOutOfBoundsException"), ("java/lang/IllegalStateException", "java/lang/IllegalArgumentException")]
def zDs : List MethodName := [Bundle.initS "java/lang/RuntimeException", Bundle.initS "java/lang/Exception", Bundle.initS Bundle.tN]
/-- what the methods need beside their words: the texts, the nest mate's link, the exceptions' classes, the two statics of Throwable -/
def zG (sa : Nat → Nat) (A : Nat → Prop) (U : State) (H : Heap) : Prop :=
  (∀ q ∈ zStr, vk_R RX4 q.1 q.2 (sa q.1) U) ∧ va_Nw (.methodLinkNest RX3 18 yX4_pairOf RX4) U ∧ (∀ E ∈ zEs, va_Nw (.castable E E) U) ∧ (∀ q ∈ zNcs, va_Nc q.1 q.2 U) ∧ (∀ y ∈ zDs, va_Nw (.declares y) U) ∧
  vx_Zq Bundle.tN "UNASSIGNED_STACK" Bundle.steD A U H ∧ vx_Zq Bundle.tN "SUPPRESSED_SENTINEL" Bundle.listD A U H
theorem zG.go {sa : Nat → Nat} {A B : Nat → Prop} {s U : State} {H H1 : Heap} (hW : s.WarmedH U.vm) (h : zG sa A s H) (hq : ∀ a : Nat, a < H.size → ¬ A a → H1[a]? = H[a]?) (hAB : ∀ q, B q → A q) : zG sa B U H1 := by
  obtain ⟨h1, h2, h3, h4, h4d, h5, h6⟩ := h
  refine ⟨fun q hq => vk_R.warm hW (h1 q hq), va_Nw.warmM hW h2, fun E hE => ?_, fun q hq => va_Nc.moved hW.alike (h4 q hq), fun y hy => va_Nw.warmD hW (h4d y hy), vx_Zq.moved hW.alike ((h5.kept hq).narrow hAB), vx_Zq.moved hW.alike ((h6.kept hq).narrow hAB)⟩
  have h7 := h3 E hE
  have h8 : (Cond.castable E E).before #[] (s.setVm U.vm) = true := by
    rw [Cond.castable_setVm hW.alike]; exact h7
  exact va_tabs rfl (rfl : (s.setVm U.vm).vm = U.vm) h8
/-- a callee's world wc among ws; behind it w1 in its place: ws' -/
def zSub (ws wc w1 ws' : va_W) : Prop :=
  (∀ (D : va_G) (cl : List vw_C) (H : Heap), va_P D cl ws H → va_P D cl wc H) ∧ (∀ A : Nat → Prop, va_D A ws → va_D A wc) ∧
  ∀ (D : va_G) (cl : List vw_C) (A : Nat → Prop) (H H1 : Heap), va_P D cl ws H → va_D A ws → (∀ q : Nat, va_A wc H.size q → A q) → (∀ q : Nat, q < H.size → ¬ va_A wc H.size q → H1[q]? = H[q]?) → va_P D cl w1 H1 → va_D (va_A wc H.size) w1 → va_P D cl ws' H1 ∧ va_D A ws'
def zIn (ws wc : va_W) : Prop := (∀ (D : va_G) (cl : List vw_C) (H : Heap), va_P D cl ws H → va_P D cl wc H) ∧ ∀ A : Nat → Prop, va_D A ws → va_D A wc
theorem zIn.full {ws : va_W} : zIn ws ws := ⟨fun _ _ _ h => h, fun _ h => h⟩
theorem zIn.none {ws : va_W} : zIn ws [] := ⟨fun _ _ _ _ k q h => by simp at h, fun _ _ => ⟨fun i j p q h => by simp at h, fun k q h => by simp at h⟩⟩
theorem zSub.full {ws w1 : va_W} : zSub ws ws w1 w1 := ⟨fun _ _ _ h => h, fun _ h => h, fun D cl A H H1 hP hD hF hk hP1 hD1 => ⟨hP1, hD1.weaken (fun _ q _ h => hF q.1 h)⟩⟩
theorem zSub.none {ws : va_W} : zSub ws [] [] ws := by
  refine ⟨fun _ _ _ _ k q h => by simp at h, fun _ _ => ⟨fun i j p q h => by simp at h, fun k q h => by simp at h⟩, fun D cl A H H1 hP hD hF hk hP1 hD1 => ⟨hP.kept (fun k q hq => ?_), hD⟩⟩
  have hl := (hP k q hq).lt
  refine hk q.1 hl (fun z => ?_)
  rcases z with ⟨k2, e, h⟩ | h
  · simp at h
  · omega
theorem zfm {ws wc : va_W} : ∀ {is : List Nat}, is.map (fun i => ws[i]?) = wc.map some → is.filterMap (fun i => ws[i]?) = wc := by
  intro is h
  have h2 : is.filterMap (fun i => ws[i]?) = (is.map (fun i => ws[i]?)).filterMap id := by
    rw [List.filterMap_map]; rfl
  rw [h2, h, List.filterMap_map]
  simp
theorem zIn.of {ws wc : va_W} (isC : List Nat) (hC : isC.map (fun i => ws[i]?) = wc.map some) (hnC : va_nd isC = true) : zIn ws wc := ⟨fun D cl H hP => hP.sub isC (zfm hC), fun A hD => hD.sub isC hnC hC⟩
theorem zSub.of {ws wc wr w1 ws' : va_W} (isC isR ks : List Nat) (hC : isC.map (fun i => ws[i]?) = wc.map some) (hR : isR.map (fun i => ws[i]?) = wr.map some) (hnC : va_nd isC = true) (hnR : va_nd isR = true) (hdis : ∀ i ∈ isR, i ∉ isC)
    (hks : ks.map (fun i => (wr ++ w1)[i]?) = ws'.map some) (hnk : va_nd ks = true) : zSub ws wc w1 ws' := by
  refine ⟨fun D cl H hP => hP.sub isC (zfm hC), fun A hD => hD.sub isC hnC hC, fun D cl A H H1 hP hD hF hk hP1 hD1 => ?_⟩
  obtain ⟨g1, g2⟩ := va_join (wr := wr) (w1 := w1) hP hD isC isR hC hR hnR hdis hk hF hP1 hD1
  exact ⟨g1.sub ks (zfm hks), g2.sub ks hnk hks⟩
variable {p : Program} {l : Launch} {e : Env} {R : Room} {s : State} {m : MethodId} {args : Array Value} {below : List Frame} {meth : Method} {c : Code} {Q : State → Prop} {D : va_G} {cl : List vw_C} {A : Nat → Prop} {tys : List (ClassId × FieldType)} {cc : ByteArray} {nL : Nat} {own : String} {Ts : List Cond} {sa : Nat → Nat} {ret : Option FieldType}
variable {cells slots : Nat} {ws ws' : va_W} {lv lv' : List (Nat × Value)} {pc : Nat} {st rest : List Value}
/-- the method, the machine and the tables -/
def zK (sa : Nat → Nat) (D : va_G) (cl : List vw_C) (tys : List (ClassId × FieldType)) (A : Nat → Prop) (p : Program) (s : State) (m : MethodId) (args : Array Value) (meth : Method) (c : Code) (cc : ByteArray) (nL : Nat) (own : String) (Ts : List Cond) (ret : Option FieldType) : Prop :=
  p.tables.exec = Jvm.exec ∧ c.code = cc ∧ c.maxLocals = nL ∧ s.vm.findClass own = some m.cls ∧ (∀ w ∈ Ts, w.before args s = true) ∧ va_K D cl tys s ∧ (∀ q : Nat, s.heap.size ≤ q → A q) ∧ zG sa A s s.heap ∧ meth.locks = false ∧ meth.sig.returnType = ret
/-- at pc, over any heap that holds ws, with the locals lv and the stack st, the machine comes to Q -/
def zW (p : Program) (l : Launch) (e : Env) (R : Room) (s : State) (m : MethodId) (args : Array Value) (below : List Frame) (meth : Method) (c : Code) (Q : State → Prop) (D : va_G) (cl : List vw_C) (A : Nat → Prop) (nL cells slots : Nat) (ws : va_W) (lv : List (Nat × Value)) (pc : Nat) (st : List Value) : Prop :=
  ∀ (H : Heap) (locs : List Loc) (ls : Array Slot), va_P D cl ws H → va_D A ws → va_S A s.heap H locs → lv_has ls nL lv → W p l e R s m args below meth c H locs cells slots Q (F0 m pc ls st)
theorem z_iconst (C : zK sa D cl tys A p s m args meth c cc nL own Ts ret) {n : Int} {v : Int32} (hdg : decode cc pc = .ok (.iconst n, 1)) (hv : Int32.ofInt n = v) (kk : zW p l e R s m args below meth c Q D cl A nL cells slots ws lv (pc + 1) (.int v :: st)) : zW p l e R s m args below meth c Q D cl A nL cells slots ws lv pc st :=
  fun H locs ls hP hD hS hl => lv_iconst C.1 C.2.1 hdg hv (kk H locs ls hP hD hS hl)
theorem z_bipush (C : zK sa D cl tys A p s m args meth c cc nL own Ts ret) {n : Int} {v : Int32} (hdg : decode cc pc = .ok (.bipush n, 2)) (hv : (Int8.ofInt n).toInt32 = v) (kk : zW p l e R s m args below meth c Q D cl A nL cells slots ws lv (pc + 2) (.int v :: st)) : zW p l e R s m args below meth c Q D cl A nL cells slots ws lv pc st :=
  fun H locs ls hP hD hS hl => lv_bipush C.1 C.2.1 hdg hv (kk H locs ls hP hD hS hl)
theorem z_sipush (C : zK sa D cl tys A p s m args meth c cc nL own Ts ret) {n : Int} {v : Int32} (hdg : decode cc pc = .ok (.sipush n, 3)) (hv : (Int16.ofInt n).toInt32 = v) (kk : zW p l e R s m args below meth c Q D cl A nL cells slots ws lv (pc + 3) (.int v :: st)) : zW p l e R s m args below meth c Q D cl A nL cells slots ws lv pc st :=
  fun H locs ls hP hD hS hl => lv_sipush C.1 C.2.1 hdg hv (kk H locs ls hP hD hS hl)
theorem z_lconst (C : zK sa D cl tys A p s m args meth c cc nL own Ts ret) {n : Fin 2} {v : Int64} (hdg : decode cc pc = .ok (.lconst n, 1)) (hv : Int64.ofNat (n : Nat) = v) (kk : zW p l e R s m args below meth c Q D cl A nL cells slots ws lv (pc + 1) (.long v :: st)) : zW p l e R s m args below meth c Q D cl A nL cells slots ws lv pc st :=
  fun H locs ls hP hD hS hl => lv_lconst C.1 C.2.1 hdg hv (kk H locs ls hP hD hS hl)
theorem z_ldc (C : zK sa D cl tys A p s m args meth c cc nL own Ts ret) {index : Nat} {v : Int32} (hm : Cond.constant own index v ∈ Ts) (hdg : decode cc pc = .ok (.ldc index, 2)) (kk : zW p l e R s m args below meth c Q D cl A nL cells slots ws lv (pc + 2) (.int v :: st)) : zW p l e R s m args below meth c Q D cl A nL cells slots ws lv pc st :=
  fun H locs ls hP hD hS hl => lv_ldc C.1 C.2.1 C.2.2.2.1 (C.2.2.2.2.1 _ hm) hdg (kk H locs ls hP hD hS hl)
theorem z_ldc2 (C : zK sa D cl tys A p s m args meth c cc nL own Ts ret) {index : Nat} {v : Int64} (hm : Cond.constantLong own index v ∈ Ts) (hdg : decode cc pc = .ok (.ldc2_w index, 3)) (kk : zW p l e R s m args below meth c Q D cl A nL cells slots ws lv (pc + 3) (.long v :: st)) : zW p l e R s m args below meth c Q D cl A nL cells slots ws lv pc st :=
  fun H locs ls hP hD hS hl => lv_ldc2 C.1 C.2.1 C.2.2.2.1 (C.2.2.2.2.1 _ hm) hdg (kk H locs ls hP hD hS hl)
theorem z_iload_n (C : zK sa D cl tys A p s m args meth c cc nL own Ts ret) {k : Fin 4} {i : Nat} {x : Int32} (hdg : decode cc pc = .ok (.iload_n k, 1)) (hi : (k : Nat) = i) (j : Nat) (hj : lv[j]? = some (i, .int x)) (kk : zW p l e R s m args below meth c Q D cl A nL cells slots ws lv (pc + 1) (.int x :: st)) : zW p l e R s m args below meth c Q D cl A nL cells slots ws lv pc st :=
  fun H locs ls hP hD hS hl => lv_iload_n C.1 C.2.1 hdg hi (lv_at hl j hj) (kk H locs ls hP hD hS hl)
theorem z_iload (C : zK sa D cl tys A p s m args meth c cc nL own Ts ret) {i : Nat} {x : Int32} (hdg : decode cc pc = .ok (.iload i, 2)) (j : Nat) (hj : lv[j]? = some (i, .int x)) (kk : zW p l e R s m args below meth c Q D cl A nL cells slots ws lv (pc + 2) (.int x :: st)) : zW p l e R s m args below meth c Q D cl A nL cells slots ws lv pc st :=
  fun H locs ls hP hD hS hl => lv_iload C.1 C.2.1 hdg (lv_at hl j hj) (kk H locs ls hP hD hS hl)
theorem z_lload_n (C : zK sa D cl tys A p s m args meth c cc nL own Ts ret) {k : Fin 4} {i : Nat} {x : Int64} (hdg : decode cc pc = .ok (.lload_n k, 1)) (hi : (k : Nat) = i) (j : Nat) (hj : lv[j]? = some (i, .long x)) (kk : zW p l e R s m args below meth c Q D cl A nL cells slots ws lv (pc + 1) (.long x :: st)) : zW p l e R s m args below meth c Q D cl A nL cells slots ws lv pc st :=
  fun H locs ls hP hD hS hl => lv_lload_n C.1 C.2.1 hdg hi (lv_at hl j hj) (kk H locs ls hP hD hS hl)
theorem z_lload (C : zK sa D cl tys A p s m args meth c cc nL own Ts ret) {i : Nat} {x : Int64} (hdg : decode cc pc = .ok (.lload i, 2)) (j : Nat) (hj : lv[j]? = some (i, .long x)) (kk : zW p l e R s m args below meth c Q D cl A nL cells slots ws lv (pc + 2) (.long x :: st)) : zW p l e R s m args below meth c Q D cl A nL cells slots ws lv pc st :=
  fun H locs ls hP hD hS hl => lv_lload C.1 C.2.1 hdg (lv_at hl j hj) (kk H locs ls hP hD hS hl)
theorem z_aload_n (C : zK sa D cl tys A p s m args meth c cc nL own Ts ret) {k : Fin 4} {i : Nat} {x : Nat} (hdg : decode cc pc = .ok (.aload_n k, 1)) (hi : (k : Nat) = i) (j : Nat) (hj : lv[j]? = some (i, .ref x)) (kk : zW p l e R s m args below meth c Q D cl A nL cells slots ws lv (pc + 1) (.ref x :: st)) : zW p l e R s m args below meth c Q D cl A nL cells slots ws lv pc st :=
  fun H locs ls hP hD hS hl => lv_aload_n C.1 C.2.1 hdg hi (lv_at hl j hj) (kk H locs ls hP hD hS hl)
theorem z_aload (C : zK sa D cl tys A p s m args meth c cc nL own Ts ret) {i : Nat} {x : Nat} (hdg : decode cc pc = .ok (.aload i, 2)) (j : Nat) (hj : lv[j]? = some (i, .ref x)) (kk : zW p l e R s m args below meth c Q D cl A nL cells slots ws lv (pc + 2) (.ref x :: st)) : zW p l e R s m args below meth c Q D cl A nL cells slots ws lv pc st :=
  fun H locs ls hP hD hS hl => lv_aload C.1 C.2.1 hdg (lv_at hl j hj) (kk H locs ls hP hD hS hl)
theorem z_istore_n (C : zK sa D cl tys A p s m args meth c cc nL own Ts ret) {k : Fin 4} {i : Nat} {x : Int32} (hdg : decode cc pc = .ok (.istore_n k, 1)) (hi : (k : Nat) = i) (hn : i < nL) (lv' : List (Nat × Value)) (ks : List Nat) (hl9 : lv_pick ((i, Value.int x) :: lv.filter (fun q => !(q.1 == i) && !(q.1 + 1 == i && q.2.category == 2))) ks = lv') (kk : zW p l e R s m args below meth c Q D cl A nL cells slots ws lv' (pc + 1) st) : zW p l e R s m args below meth c Q D cl A nL cells slots ws lv pc (.int x :: st) :=
  fun H locs ls hP hD hS hl => lv_istore_n C.1 C.2.1 hdg hi hl hn rfl (fun ls1 hl1 => kk H locs ls1 hP hD hS (lv_sub hl1 ks hl9))
theorem z_istore (C : zK sa D cl tys A p s m args meth c cc nL own Ts ret) {i : Nat} {x : Int32} (hdg : decode cc pc = .ok (.istore i, 2)) (hn : i < nL) (lv' : List (Nat × Value)) (ks : List Nat) (hl9 : lv_pick ((i, Value.int x) :: lv.filter (fun q => !(q.1 == i) && !(q.1 + 1 == i && q.2.category == 2))) ks = lv') (kk : zW p l e R s m args below meth c Q D cl A nL cells slots ws lv' (pc + 2) st) : zW p l e R s m args below meth c Q D cl A nL cells slots ws lv pc (.int x :: st) :=
  fun H locs ls hP hD hS hl => lv_istore C.1 C.2.1 hdg hl hn rfl (fun ls1 hl1 => kk H locs ls1 hP hD hS (lv_sub hl1 ks hl9))
theorem z_astore_n (C : zK sa D cl tys A p s m args meth c cc nL own Ts ret) {k : Fin 4} {i : Nat} {x : Nat} (hdg : decode cc pc = .ok (.astore_n k, 1)) (hi : (k : Nat) = i) (hn : i < nL) (lv' : List (Nat × Value)) (ks : List Nat) (hl9 : lv_pick ((i, Value.ref x) :: lv.filter (fun q => !(q.1 == i) && !(q.1 + 1 == i && q.2.category == 2))) ks = lv') (kk : zW p l e R s m args below meth c Q D cl A nL cells slots ws lv' (pc + 1) st) : zW p l e R s m args below meth c Q D cl A nL cells slots ws lv pc (.ref x :: st) :=
  fun H locs ls hP hD hS hl => lv_astore_n C.1 C.2.1 hdg hi hl hn rfl (fun ls1 hl1 => kk H locs ls1 hP hD hS (lv_sub hl1 ks hl9))
theorem z_astore (C : zK sa D cl tys A p s m args meth c cc nL own Ts ret) {i : Nat} {x : Nat} (hdg : decode cc pc = .ok (.astore i, 2)) (hn : i < nL) (lv' : List (Nat × Value)) (ks : List Nat) (hl9 : lv_pick ((i, Value.ref x) :: lv.filter (fun q => !(q.1 == i) && !(q.1 + 1 == i && q.2.category == 2))) ks = lv') (kk : zW p l e R s m args below meth c Q D cl A nL cells slots ws lv' (pc + 2) st) : zW p l e R s m args below meth c Q D cl A nL cells slots ws lv pc (.ref x :: st) :=
  fun H locs ls hP hD hS hl => lv_astore C.1 C.2.1 hdg hl hn rfl (fun ls1 hl1 => kk H locs ls1 hP hD hS (lv_sub hl1 ks hl9))
theorem z_lstore_n (C : zK sa D cl tys A p s m args meth c cc nL own Ts ret) {k : Fin 4} {i : Nat} {x : Int64} (hdg : decode cc pc = .ok (.lstore_n k, 1)) (hi : (k : Nat) = i) (hn : i + 1 < nL) (lv' : List (Nat × Value)) (ks : List Nat) (hl9 : lv_pick ((i, Value.long x) :: lv.filter (fun q => !(q.1 == i) && (!(q.1 == i + 1) && !(q.1 + 1 == i && q.2.category == 2)))) ks = lv') (kk : zW p l e R s m args below meth c Q D cl A nL cells slots ws lv' (pc + 1) st) : zW p l e R s m args below meth c Q D cl A nL cells slots ws lv pc (.long x :: st) :=
  fun H locs ls hP hD hS hl => lv_lstore_n C.1 C.2.1 hdg hi hl hn rfl (fun ls1 hl1 => kk H locs ls1 hP hD hS (lv_sub hl1 ks hl9))
theorem z_lstore (C : zK sa D cl tys A p s m args meth c cc nL own Ts ret) {i : Nat} {x : Int64} (hdg : decode cc pc = .ok (.lstore i, 2)) (hn : i + 1 < nL) (lv' : List (Nat × Value)) (ks : List Nat) (hl9 : lv_pick ((i, Value.long x) :: lv.filter (fun q => !(q.1 == i) && (!(q.1 == i + 1) && !(q.1 + 1 == i && q.2.category == 2)))) ks = lv') (kk : zW p l e R s m args below meth c Q D cl A nL cells slots ws lv' (pc + 2) st) : zW p l e R s m args below meth c Q D cl A nL cells slots ws lv pc (.long x :: st) :=
  fun H locs ls hP hD hS hl => lv_lstore C.1 C.2.1 hdg hl hn rfl (fun ls1 hl1 => kk H locs ls1 hP hD hS (lv_sub hl1 ks hl9))
theorem z_iinc (C : zK sa D cl tys A p s m args meth c cc nL own Ts ret) {i : Nat} {n : Int} {x v : Int32} (hdg : decode cc pc = .ok (.iinc i n, 3)) (j : Nat) (hj : lv[j]? = some (i, .int x)) (hv : x + Int32.ofInt n = v) (hn : i < nL) (lv' : List (Nat × Value)) (ks : List Nat) (hl9 : lv_pick ((i, Value.int v) :: lv.filter (fun q => !(q.1 == i) && !(q.1 + 1 == i && q.2.category == 2))) ks = lv') (kk : zW p l e R s m args below meth c Q D cl A nL cells slots ws lv' (pc + 3) st) : zW p l e R s m args below meth c Q D cl A nL cells slots ws lv pc st :=
  fun H locs ls hP hD hS hl => lv_iinc C.1 C.2.1 hdg hl hj hv hn rfl (fun ls1 hl1 => kk H locs ls1 hP hD hS (lv_sub hl1 ks hl9))
theorem z_iadd (C : zK sa D cl tys A p s m args meth c cc nL own Ts ret) {x y v : Int32} (hdg : decode cc pc = .ok (.iadd, 1)) (hv : x + y = v) (kk : zW p l e R s m args below meth c Q D cl A nL cells slots ws lv (pc + 1) (.int v :: st)) : zW p l e R s m args below meth c Q D cl A nL cells slots ws lv pc (.int y :: .int x :: st) :=
  fun H locs ls hP hD hS hl => lv_iadd C.1 C.2.1 hdg (by rw [hv]; exact kk H locs ls hP hD hS hl)
theorem z_isub (C : zK sa D cl tys A p s m args meth c cc nL own Ts ret) {x y v : Int32} (hdg : decode cc pc = .ok (.isub, 1)) (hv : x - y = v) (kk : zW p l e R s m args below meth c Q D cl A nL cells slots ws lv (pc + 1) (.int v :: st)) : zW p l e R s m args below meth c Q D cl A nL cells slots ws lv pc (.int y :: .int x :: st) :=
  fun H locs ls hP hD hS hl => lv_isub C.1 C.2.1 hdg (by rw [hv]; exact kk H locs ls hP hD hS hl)
theorem z_imul (C : zK sa D cl tys A p s m args meth c cc nL own Ts ret) {x y v : Int32} (hdg : decode cc pc = .ok (.imul, 1)) (hv : x * y = v) (kk : zW p l e R s m args below meth c Q D cl A nL cells slots ws lv (pc + 1) (.int v :: st)) : zW p l e R s m args below meth c Q D cl A nL cells slots ws lv pc (.int y :: .int x :: st) :=
  fun H locs ls hP hD hS hl => lv_imul C.1 C.2.1 hdg (by rw [hv]; exact kk H locs ls hP hD hS hl)
theorem z_iand (C : zK sa D cl tys A p s m args meth c cc nL own Ts ret) {x y v : Int32} (hdg : decode cc pc = .ok (.iand, 1)) (hv : x &&& y = v) (kk : zW p l e R s m args below meth c Q D cl A nL cells slots ws lv (pc + 1) (.int v :: st)) : zW p l e R s m args below meth c Q D cl A nL cells slots ws lv pc (.int y :: .int x :: st) :=
  fun H locs ls hP hD hS hl => lv_iand C.1 C.2.1 hdg (by rw [hv]; exact kk H locs ls hP hD hS hl)
theorem z_ior (C : zK sa D cl tys A p s m args meth c cc nL own Ts ret) {x y v : Int32} (hdg : decode cc pc = .ok (.ior, 1)) (hv : x ||| y = v) (kk : zW p l e R s m args below meth c Q D cl A nL cells slots ws lv (pc + 1) (.int v :: st)) : zW p l e R s m args below meth c Q D cl A nL cells slots ws lv pc (.int y :: .int x :: st) :=
  fun H locs ls hP hD hS hl => lv_ior C.1 C.2.1 hdg (by rw [hv]; exact kk H locs ls hP hD hS hl)
theorem z_idiv (C : zK sa D cl tys A p s m args meth c cc nL own Ts ret) {x y v : Int32} (hdg : decode cc pc = .ok (.idiv, 1)) (hne : ¬ y = 0) (hv : x / y = v) (kk : zW p l e R s m args below meth c Q D cl A nL cells slots ws lv (pc + 1) (.int v :: st)) : zW p l e R s m args below meth c Q D cl A nL cells slots ws lv pc (.int y :: .int x :: st) :=
  fun H locs ls hP hD hS hl => lv_idiv C.1 C.2.1 hdg hne (by rw [hv]; exact kk H locs ls hP hD hS hl)
theorem z_ishl (C : zK sa D cl tys A p s m args meth c cc nL own Ts ret) {x y v : Int32} (hdg : decode cc pc = .ok (.ishl, 1)) (hv : x <<< (y &&& 31) = v) (kk : zW p l e R s m args below meth c Q D cl A nL cells slots ws lv (pc + 1) (.int v :: st)) : zW p l e R s m args below meth c Q D cl A nL cells slots ws lv pc (.int y :: .int x :: st) :=
  fun H locs ls hP hD hS hl => lv_ishl C.1 C.2.1 hdg (by rw [hv]; exact kk H locs ls hP hD hS hl)
theorem z_ishr (C : zK sa D cl tys A p s m args meth c cc nL own Ts ret) {x y v : Int32} (hdg : decode cc pc = .ok (.ishr, 1)) (hv : x >>> (y &&& 31) = v) (kk : zW p l e R s m args below meth c Q D cl A nL cells slots ws lv (pc + 1) (.int v :: st)) : zW p l e R s m args below meth c Q D cl A nL cells slots ws lv pc (.int y :: .int x :: st) :=
  fun H locs ls hP hD hS hl => lv_ishr C.1 C.2.1 hdg (by rw [hv]; exact kk H locs ls hP hD hS hl)
theorem z_lmul (C : zK sa D cl tys A p s m args meth c cc nL own Ts ret) {x y v : Int64} (hdg : decode cc pc = .ok (.lmul, 1)) (hv : x * y = v) (kk : zW p l e R s m args below meth c Q D cl A nL cells slots ws lv (pc + 1) (.long v :: st)) : zW p l e R s m args below meth c Q D cl A nL cells slots ws lv pc (.long y :: .long x :: st) :=
  fun H locs ls hP hD hS hl => lv_lmul C.1 C.2.1 hdg (by rw [hv]; exact kk H locs ls hP hD hS hl)
theorem z_ldiv (C : zK sa D cl tys A p s m args meth c cc nL own Ts ret) {x y v : Int64} (hdg : decode cc pc = .ok (.ldiv, 1)) (hne : ¬ y = 0) (hv : x / y = v) (kk : zW p l e R s m args below meth c Q D cl A nL cells slots ws lv (pc + 1) (.long v :: st)) : zW p l e R s m args below meth c Q D cl A nL cells slots ws lv pc (.long y :: .long x :: st) :=
  fun H locs ls hP hD hS hl => lv_ldiv C.1 C.2.1 hdg hne (by rw [hv]; exact kk H locs ls hP hD hS hl)
theorem z_i2l (C : zK sa D cl tys A p s m args meth c cc nL own Ts ret) {x : Int32} {v : Int64} (hdg : decode cc pc = .ok (.i2l, 1)) (hv : x.toInt64 = v) (kk : zW p l e R s m args below meth c Q D cl A nL cells slots ws lv (pc + 1) (.long v :: st)) : zW p l e R s m args below meth c Q D cl A nL cells slots ws lv pc (.int x :: st) :=
  fun H locs ls hP hD hS hl => lv_i2l C.1 C.2.1 hdg hv (kk H locs ls hP hD hS hl)
theorem z_dup (C : zK sa D cl tys A p s m args meth c cc nL own Ts ret) {va : Value} (hdg : decode cc pc = .ok (.dup, 1)) (hva : va.category = 1) (kk : zW p l e R s m args below meth c Q D cl A nL cells slots ws lv (pc + 1) (va :: va :: st)) : zW p l e R s m args below meth c Q D cl A nL cells slots ws lv pc (va :: st) :=
  fun H locs ls hP hD hS hl => lv_dup C.1 C.2.1 hdg hva (kk H locs ls hP hD hS hl)
theorem z_dup2 (C : zK sa D cl tys A p s m args meth c cc nL own Ts ret) {va vb : Value} (hdg : decode cc pc = .ok (.dup2, 1)) (hva : va.category = 1) (hvb : vb.category = 1) (kk : zW p l e R s m args below meth c Q D cl A nL cells slots ws lv (pc + 1) (va :: vb :: va :: vb :: st)) : zW p l e R s m args below meth c Q D cl A nL cells slots ws lv pc (va :: vb :: st) :=
  fun H locs ls hP hD hS hl => lv_dup2_11 C.1 C.2.1 hdg hva hvb (kk H locs ls hP hD hS hl)
theorem z_if_eq (C : zK sa D cl tys A p s m args meth c cc nL own Ts ret) {x : Int32} {off : Int} {tgt : Nat} (hdg : decode cc pc = .ok (.ifCond .eq off, 3)) (ht : (pc : Int) + off = (tgt : Int)) (kt : x = 0 → zW p l e R s m args below meth c Q D cl A nL cells slots ws lv tgt st) (kf : ¬ x = 0 → zW p l e R s m args below meth c Q D cl A nL cells slots ws lv (pc + 3) st) : zW p l e R s m args below meth c Q D cl A nL cells slots ws lv pc (.int x :: st) :=
  fun H locs ls hP hD hS hl => lv_if_eq C.1 C.2.1 hdg ht (fun q => kt q H locs ls hP hD hS hl) (fun q => kf q H locs ls hP hD hS hl)
theorem z_icmp_eq (C : zK sa D cl tys A p s m args meth c cc nL own Ts ret) {x y : Int32} {off : Int} {tgt : Nat} (hdg : decode cc pc = .ok (.if_icmp .eq off, 3)) (ht : (pc : Int) + off = (tgt : Int)) (kt : x = y → zW p l e R s m args below meth c Q D cl A nL cells slots ws lv tgt st) (kf : ¬ x = y → zW p l e R s m args below meth c Q D cl A nL cells slots ws lv (pc + 3) st) : zW p l e R s m args below meth c Q D cl A nL cells slots ws lv pc (.int y :: .int x :: st) :=
  fun H locs ls hP hD hS hl => lv_icmp_eq C.1 C.2.1 hdg ht (fun q => kt q H locs ls hP hD hS hl) (fun q => kf q H locs ls hP hD hS hl)
theorem z_if_ne (C : zK sa D cl tys A p s m args meth c cc nL own Ts ret) {x : Int32} {off : Int} {tgt : Nat} (hdg : decode cc pc = .ok (.ifCond .ne off, 3)) (ht : (pc : Int) + off = (tgt : Int)) (kt : ¬ x = 0 → zW p l e R s m args below meth c Q D cl A nL cells slots ws lv tgt st) (kf : x = 0 → zW p l e R s m args below meth c Q D cl A nL cells slots ws lv (pc + 3) st) : zW p l e R s m args below meth c Q D cl A nL cells slots ws lv pc (.int x :: st) :=
  fun H locs ls hP hD hS hl => lv_if_ne C.1 C.2.1 hdg ht (fun q => kt q H locs ls hP hD hS hl) (fun q => kf q H locs ls hP hD hS hl)
theorem z_icmp_ne (C : zK sa D cl tys A p s m args meth c cc nL own Ts ret) {x y : Int32} {off : Int} {tgt : Nat} (hdg : decode cc pc = .ok (.if_icmp .ne off, 3)) (ht : (pc : Int) + off = (tgt : Int)) (kt : ¬ x = y → zW p l e R s m args below meth c Q D cl A nL cells slots ws lv tgt st) (kf : x = y → zW p l e R s m args below meth c Q D cl A nL cells slots ws lv (pc + 3) st) : zW p l e R s m args below meth c Q D cl A nL cells slots ws lv pc (.int y :: .int x :: st) :=
  fun H locs ls hP hD hS hl => lv_icmp_ne C.1 C.2.1 hdg ht (fun q => kt q H locs ls hP hD hS hl) (fun q => kf q H locs ls hP hD hS hl)
theorem z_if_lt (C : zK sa D cl tys A p s m args meth c cc nL own Ts ret) {x : Int32} {off : Int} {tgt : Nat} (hdg : decode cc pc = .ok (.ifCond .lt off, 3)) (ht : (pc : Int) + off = (tgt : Int)) (kt : x < 0 → zW p l e R s m args below meth c Q D cl A nL cells slots ws lv tgt st) (kf : ¬ x < 0 → zW p l e R s m args below meth c Q D cl A nL cells slots ws lv (pc + 3) st) : zW p l e R s m args below meth c Q D cl A nL cells slots ws lv pc (.int x :: st) :=
  fun H locs ls hP hD hS hl => lv_if_lt C.1 C.2.1 hdg ht (fun q => kt q H locs ls hP hD hS hl) (fun q => kf q H locs ls hP hD hS hl)
theorem z_icmp_lt (C : zK sa D cl tys A p s m args meth c cc nL own Ts ret) {x y : Int32} {off : Int} {tgt : Nat} (hdg : decode cc pc = .ok (.if_icmp .lt off, 3)) (ht : (pc : Int) + off = (tgt : Int)) (kt : x < y → zW p l e R s m args below meth c Q D cl A nL cells slots ws lv tgt st) (kf : ¬ x < y → zW p l e R s m args below meth c Q D cl A nL cells slots ws lv (pc + 3) st) : zW p l e R s m args below meth c Q D cl A nL cells slots ws lv pc (.int y :: .int x :: st) :=
  fun H locs ls hP hD hS hl => lv_icmp_lt C.1 C.2.1 hdg ht (fun q => kt q H locs ls hP hD hS hl) (fun q => kf q H locs ls hP hD hS hl)
theorem z_if_ge (C : zK sa D cl tys A p s m args meth c cc nL own Ts ret) {x : Int32} {off : Int} {tgt : Nat} (hdg : decode cc pc = .ok (.ifCond .ge off, 3)) (ht : (pc : Int) + off = (tgt : Int)) (kt : 0 ≤ x → zW p l e R s m args below meth c Q D cl A nL cells slots ws lv tgt st) (kf : ¬ 0 ≤ x → zW p l e R s m args below meth c Q D cl A nL cells slots ws lv (pc + 3) st) : zW p l e R s m args below meth c Q D cl A nL cells slots ws lv pc (.int x :: st) :=
  fun H locs ls hP hD hS hl => lv_if_ge C.1 C.2.1 hdg ht (fun q => kt q H locs ls hP hD hS hl) (fun q => kf q H locs ls hP hD hS hl)
theorem z_icmp_ge (C : zK sa D cl tys A p s m args meth c cc nL own Ts ret) {x y : Int32} {off : Int} {tgt : Nat} (hdg : decode cc pc = .ok (.if_icmp .ge off, 3)) (ht : (pc : Int) + off = (tgt : Int)) (kt : y ≤ x → zW p l e R s m args below meth c Q D cl A nL cells slots ws lv tgt st) (kf : ¬ y ≤ x → zW p l e R s m args below meth c Q D cl A nL cells slots ws lv (pc + 3) st) : zW p l e R s m args below meth c Q D cl A nL cells slots ws lv pc (.int y :: .int x :: st) :=
  fun H locs ls hP hD hS hl => lv_icmp_ge C.1 C.2.1 hdg ht (fun q => kt q H locs ls hP hD hS hl) (fun q => kf q H locs ls hP hD hS hl)
theorem z_if_gt (C : zK sa D cl tys A p s m args meth c cc nL own Ts ret) {x : Int32} {off : Int} {tgt : Nat} (hdg : decode cc pc = .ok (.ifCond .gt off, 3)) (ht : (pc : Int) + off = (tgt : Int)) (kt : 0 < x → zW p l e R s m args below meth c Q D cl A nL cells slots ws lv tgt st) (kf : ¬ 0 < x → zW p l e R s m args below meth c Q D cl A nL cells slots ws lv (pc + 3) st) : zW p l e R s m args below meth c Q D cl A nL cells slots ws lv pc (.int x :: st) :=
  fun H locs ls hP hD hS hl => lv_if_gt C.1 C.2.1 hdg ht (fun q => kt q H locs ls hP hD hS hl) (fun q => kf q H locs ls hP hD hS hl)
theorem z_icmp_gt (C : zK sa D cl tys A p s m args meth c cc nL own Ts ret) {x y : Int32} {off : Int} {tgt : Nat} (hdg : decode cc pc = .ok (.if_icmp .gt off, 3)) (ht : (pc : Int) + off = (tgt : Int)) (kt : y < x → zW p l e R s m args below meth c Q D cl A nL cells slots ws lv tgt st) (kf : ¬ y < x → zW p l e R s m args below meth c Q D cl A nL cells slots ws lv (pc + 3) st) : zW p l e R s m args below meth c Q D cl A nL cells slots ws lv pc (.int y :: .int x :: st) :=
  fun H locs ls hP hD hS hl => lv_icmp_gt C.1 C.2.1 hdg ht (fun q => kt q H locs ls hP hD hS hl) (fun q => kf q H locs ls hP hD hS hl)
theorem z_if_le (C : zK sa D cl tys A p s m args meth c cc nL own Ts ret) {x : Int32} {off : Int} {tgt : Nat} (hdg : decode cc pc = .ok (.ifCond .le off, 3)) (ht : (pc : Int) + off = (tgt : Int)) (kt : x ≤ 0 → zW p l e R s m args below meth c Q D cl A nL cells slots ws lv tgt st) (kf : ¬ x ≤ 0 → zW p l e R s m args below meth c Q D cl A nL cells slots ws lv (pc + 3) st) : zW p l e R s m args below meth c Q D cl A nL cells slots ws lv pc (.int x :: st) :=
  fun H locs ls hP hD hS hl => lv_if_le C.1 C.2.1 hdg ht (fun q => kt q H locs ls hP hD hS hl) (fun q => kf q H locs ls hP hD hS hl)
theorem z_icmp_le (C : zK sa D cl tys A p s m args meth c cc nL own Ts ret) {x y : Int32} {off : Int} {tgt : Nat} (hdg : decode cc pc = .ok (.if_icmp .le off, 3)) (ht : (pc : Int) + off = (tgt : Int)) (kt : x ≤ y → zW p l e R s m args below meth c Q D cl A nL cells slots ws lv tgt st) (kf : ¬ x ≤ y → zW p l e R s m args below meth c Q D cl A nL cells slots ws lv (pc + 3) st) : zW p l e R s m args below meth c Q D cl A nL cells slots ws lv pc (.int y :: .int x :: st) :=
  fun H locs ls hP hD hS hl => lv_icmp_le C.1 C.2.1 hdg ht (fun q => kt q H locs ls hP hD hS hl) (fun q => kf q H locs ls hP hD hS hl)
theorem z_goto (C : zK sa D cl tys A p s m args meth c cc nL own Ts ret) {off : Int} {tgt : Nat} (hdg : decode cc pc = .ok (.goto off, 3)) (ht : (pc : Int) + off = (tgt : Int)) (kk : zW p l e R s m args below meth c Q D cl A nL cells slots ws lv tgt st) : zW p l e R s m args below meth c Q D cl A nL cells slots ws lv pc st :=
  fun H locs ls hP hD hS hl => lv_goto C.1 C.2.1 hdg ht (kk H locs ls hP hD hS hl)
theorem z_case (b : Prop) (kt : b → zW p l e R s m args below meth c Q D cl A nL cells slots ws lv pc st) (kf : ¬ b → zW p l e R s m args below meth c Q D cl A nL cells slots ws lv pc st) : zW p l e R s m args below meth c Q D cl A nL cells slots ws lv pc st := by
  by_cases h : b
  · exact kt h
  · exact kf h
theorem z_get (C : zK sa D cl tys A p s m args meth c cc nL own Ts ret) {ref C9 : String} {T : u_T} {N ci index : Nat} {a : Nat} (q0 : Nat) {fs : List Value} (he : ws[q0]? = some (a, .inr (ci, fs))) (hin : ∀ w ∈ u_ws C9 T N, w ∈ Ts) (hc : cl[ci]? = some (C9, T, N)) (k : Nat) (hk : k < N) (hlk : Cond.fieldLink own index ref (T k).2.1 (T k).2.2.1 ∈ Ts) (hrf : (T k).1 = ref) {v : Value} (hv : fs[k]? = some v) (hdg : decode cc pc = .ok (.getfield index, 3)) (kk : zW p l e R s m args below meth c Q D cl A nL cells slots ws lv (pc + 3) (v :: st)) : zW p l e R s m args below meth c Q D cl A nL cells slots ws lv pc (.ref a :: st) :=
  fun H locs ls hP hD hS hl => va_get C.1 C.2.1 C.2.2.2.2.1 hin C.2.2.2.1 C.2.2.2.2.2.1 hP q0 he hc k hk (C.2.2.2.2.1 _ hlk) (fun _ h9 => hrf ▸ h9) hv hdg (kk H locs ls hP hD hS hl)
theorem z_put (C : zK sa D cl tys A p s m args meth c cc nL own Ts ret) {ref C9 : String} {T : u_T} {N ci index : Nat} {a : Nat} (q0 : Nat) {fs : List Value} (he : ws[q0]? = some (a, .inr (ci, fs))) (hin : ∀ w ∈ u_ws C9 T N, w ∈ Ts) (hc : cl[ci]? = some (C9, T, N)) (k : Nat) (hk : k < N) (hlk : Cond.fieldLink own index ref (T k).2.1 (T k).2.2.1 ∈ Ts) (hrf : (T k).1 = ref) (ty0 : Nat → FieldType) (hty : ∀ k, k < N → parseFieldDescriptor (T k).2.2.1 = some (ty0 k)) (hnm : ∀ a, a < N → ∀ b, b < N → a ≠ b → (T a).2.1 ≠ (T b).2.1) (hfin : (T k).2.2.2 = false) {ty : FieldType} {v : Value} (hd : parseFieldDescriptor (T k).2.2.1 = some ty) (hn : narrow ty v = v) (hfit : fits ty v = true) (hlen : k < fs.length) (hdg : decode cc pc = .ok (.putfield index, 3)) (ws' : va_W) (hw : ws.set q0 (a, .inr (ci, fs.set k v)) = ws') (kk : zW p l e R s m args below meth c Q D cl A nL cells slots ws' lv (pc + 3) st) : zW p l e R s m args below meth c Q D cl A nL cells slots ws lv pc (v :: .ref a :: st) :=
  fun H locs ls hP hD hS hl => va_put C.1 C.2.1 C.2.2.2.2.1 hin ty0 hty hnm C.2.2.2.1 C.2.2.2.2.2.1 hP hD hS q0 he hc k hk (C.2.2.2.2.1 _ hlk) (fun _ h9 => hrf ▸ h9) hfin hd hn hfit hlen hdg (fun H1 locs1 hP1 hD1 hS1 => kk H1 locs1 ls (hw ▸ hP1) (hw ▸ hD1) hS1 hl)
theorem z_putF (C : zK sa D cl tys A p s m args meth c cc nL own Ts ret) {ref C9 : String} {T : u_T} {N ci index : Nat} {a : Nat} (q0 : Nat) {fs : List Value} (he : ws[q0]? = some (a, .inr (ci, fs))) (hin : ∀ w ∈ u_ws C9 T N, w ∈ Ts) (hc : cl[ci]? = some (C9, T, N)) (k : Nat) (hk : k < N) (hlk : Cond.fieldLink own index ref (T k).2.1 (T k).2.2.1 ∈ Ts) (hrf : (T k).1 = ref) (ty0 : Nat → FieldType) (hty : ∀ k, k < N → parseFieldDescriptor (T k).2.2.1 = some (ty0 k)) (hnm : ∀ a, a < N → ∀ b, b < N → a ≠ b → (T a).2.1 ≠ (T b).2.1) (hfin : (T k).2.2.2 = true) (hin2 : meth.name = "<init>") (hdecl : (T k).1 = own) {ty : FieldType} {v : Value} (hd : parseFieldDescriptor (T k).2.2.1 = some ty) (hn : narrow ty v = v) (hfit : fits ty v = true) (hlen : k < fs.length) (hdg : decode cc pc = .ok (.putfield index, 3)) (ws' : va_W) (hw : ws.set q0 (a, .inr (ci, fs.set k v)) = ws') (kk : zW p l e R s m args below meth c Q D cl A nL cells slots ws' lv (pc + 3) st) : zW p l e R s m args below meth c Q D cl A nL cells slots ws lv pc (v :: .ref a :: st) :=
  fun H locs ls hP hD hS hl => va_putF C.1 C.2.1 C.2.2.2.2.1 hin ty0 hty hnm C.2.2.2.1 C.2.2.2.2.2.1 hP hD hS q0 he hc k hk (C.2.2.2.2.1 _ hlk) (fun _ h9 => hrf ▸ h9) hfin hin2 hdecl hd hn hfit hlen hdg (fun H1 locs1 hP1 hD1 hS1 => kk H1 locs1 ls (hw ▸ hP1) (hw ▸ hD1) hS1 hl)
theorem z_iald (C : zK sa D cl tys A p s m args meth c cc nL own Ts ret) {a : Nat} (q0 t0 : Nat) {cA : ClassId} {n : Nat} {f : Nat → Int32} (ha : ws[q0]? = some (a, .inl (cA, n, .inl f))) (ht : tys[t0]? = some (cA, .int)) {i : Int32} (k : Nat) (hk : i.toNatClampNeg = k) (hin : vp_in i n) (v : Int32) (hv : f k = v) (hdg : decode cc pc = .ok (.iaload, 1)) (kk : zW p l e R s m args below meth c Q D cl A nL cells slots ws lv (pc + 1) (.int v :: st)) : zW p l e R s m args below meth c Q D cl A nL cells slots ws lv pc (.int i :: .ref a :: st) :=
  by
  subst hk
  subst hv
  exact fun H locs ls hP hD hS hl => va_iald C.1 C.2.1 C.2.2.2.2.2.1 hP q0 t0 ha ht hin hdg (kk H locs ls hP hD hS hl)
theorem z_zald (C : zK sa D cl tys A p s m args meth c cc nL own Ts ret) {a : Nat} (q0 t0 : Nat) {cA : ClassId} {n : Nat} {f : Nat → Int32} (ha : ws[q0]? = some (a, .inl (cA, n, .inl f))) (ht : tys[t0]? = some (cA, .boolean)) {i : Int32} (k : Nat) (hk : i.toNatClampNeg = k) (hin : vp_in i n) (v : Int32) (hv : f k = v) (hdg : decode cc pc = .ok (.baload, 1)) (kk : zW p l e R s m args below meth c Q D cl A nL cells slots ws lv (pc + 1) (.int v :: st)) : zW p l e R s m args below meth c Q D cl A nL cells slots ws lv pc (.int i :: .ref a :: st) :=
  by
  subst hk
  subst hv
  exact fun H locs ls hP hD hS hl => va_zald C.1 C.2.1 C.2.2.2.2.2.1 hP q0 t0 ha ht hin hdg (kk H locs ls hP hD hS hl)
theorem z_lald (C : zK sa D cl tys A p s m args meth c cc nL own Ts ret) {a : Nat} (q0 t0 : Nat) {cA : ClassId} {n : Nat} {f : Nat → Int64} (ha : ws[q0]? = some (a, .inl (cA, n, .inr (.inl f)))) (ht : tys[t0]? = some (cA, .long)) {i : Int32} (k : Nat) (hk : i.toNatClampNeg = k) (hin : vp_in i n) (hdg : decode cc pc = .ok (.laload, 1)) (kk : zW p l e R s m args below meth c Q D cl A nL cells slots ws lv (pc + 1) (.long (f k) :: st)) : zW p l e R s m args below meth c Q D cl A nL cells slots ws lv pc (.int i :: .ref a :: st) :=
  by
  subst hk
  exact fun H locs ls hP hD hS hl => va_lald C.1 C.2.1 C.2.2.2.2.2.1 hP q0 t0 ha ht hin hdg (kk H locs ls hP hD hS hl)
theorem z_iast (C : zK sa D cl tys A p s m args meth c cc nL own Ts ret) {a : Nat} (q0 t0 : Nat) {cA : ClassId} {n : Nat} {f : Nat → Int32} (ha : ws[q0]? = some (a, .inl (cA, n, .inl f))) (ht : tys[t0]? = some (cA, .int)) {i x : Int32} (k : Nat) (hk : i.toNatClampNeg = k) (hin : vp_in i n) (v : Int32) (hv : narrow .int (.int x) = .int v) (hdg : decode cc pc = .ok (.iastore, 1)) (ws' : va_W) (hw : ws.set q0 (a, .inl (cA, n, .inl (upd f k v))) = ws') (kk : zW p l e R s m args below meth c Q D cl A nL cells slots ws' lv (pc + 1) st) : zW p l e R s m args below meth c Q D cl A nL cells slots ws lv pc (.int x :: .int i :: .ref a :: st) :=
  by
  subst hk
  have hv : v = vp_nar .int x := by unfold vp_nar; rw [hv]
  subst hv
  subst hw
  exact fun H locs ls hP hD hS hl => va_iast C.1 C.2.1 C.2.2.2.2.2.1 hP hD hS q0 t0 ha ht hin hdg (fun H1 locs1 hP1 hD1 hS1 => kk H1 locs1 ls hP1 hD1 hS1 hl)
theorem z_zast (C : zK sa D cl tys A p s m args meth c cc nL own Ts ret) {a : Nat} (q0 t0 : Nat) {cA : ClassId} {n : Nat} {f : Nat → Int32} (ha : ws[q0]? = some (a, .inl (cA, n, .inl f))) (ht : tys[t0]? = some (cA, .boolean)) {i x : Int32} (k : Nat) (hk : i.toNatClampNeg = k) (hin : vp_in i n) (v : Int32) (hv : narrow .boolean (.int x) = .int v) (hdg : decode cc pc = .ok (.bastore, 1)) (ws' : va_W) (hw : ws.set q0 (a, .inl (cA, n, .inl (upd f k v))) = ws') (kk : zW p l e R s m args below meth c Q D cl A nL cells slots ws' lv (pc + 1) st) : zW p l e R s m args below meth c Q D cl A nL cells slots ws lv pc (.int x :: .int i :: .ref a :: st) :=
  by
  subst hk
  have hv : v = vp_nar .boolean x := by unfold vp_nar; rw [hv]
  subst hv
  subst hw
  exact fun H locs ls hP hD hS hl => va_zast C.1 C.2.1 C.2.2.2.2.2.1 hP hD hS q0 t0 ha ht hin hdg (fun H1 locs1 hP1 hD1 hS1 => kk H1 locs1 ls hP1 hD1 hS1 hl)
theorem z_last (C : zK sa D cl tys A p s m args meth c cc nL own Ts ret) {a : Nat} (q0 t0 : Nat) {cA : ClassId} {n : Nat} {f : Nat → Int64} (ha : ws[q0]? = some (a, .inl (cA, n, .inr (.inl f)))) (ht : tys[t0]? = some (cA, .long)) {i : Int32} {x : Int64} (k : Nat) (hk : i.toNatClampNeg = k) (hin : vp_in i n) (hdg : decode cc pc = .ok (.lastore, 1)) (ws' : va_W) (hw : ws.set q0 (a, .inl (cA, n, .inr (.inl (vp_updL f k x)))) = ws') (kk : zW p l e R s m args below meth c Q D cl A nL cells slots ws' lv (pc + 1) st) : zW p l e R s m args below meth c Q D cl A nL cells slots ws lv pc (.long x :: .int i :: .ref a :: st) :=
  by
  subst hk
  subst hw
  exact fun H locs ls hP hD hS hl => va_last C.1 C.2.1 C.2.2.2.2.2.1 hP hD hS q0 t0 ha ht hin hdg (fun H1 locs1 hP1 hD1 hS1 => kk H1 locs1 ls hP1 hD1 hS1 hl)
theorem z_mmin (C : zK sa D cl tys A p s m args meth c cc nL own Ts ret) {index : Nat} {x y v : Int32} (h1 : Cond.methodLink own index Lib.Math.min.name ∈ Ts) (h2 : Cond.static Lib.Math.min.name ∈ Ts) (h3 : Cond.initialized "java/lang/Math" ∈ Ts) (h4 : Cond.code Lib.Math.min.name Lib.Math.min.code 2 (some .int) ∈ Ts) (hR : 1 ≤ R.frames ∧ (st.map fun v => v.category).sum + 13 ≤ R.locals ∧ cells ≤ R.cells ∧ slots ≤ R.slots) (hdg : decode cc pc = .ok (.invokestatic index, 3)) (hv : (if y < x then y else x) = v) (kk : zW p l e R s m args below meth c Q D cl A nL cells slots ws lv (pc + 3) (.int v :: st)) : zW p l e R s m args below meth c Q D cl A nL cells slots ws lv pc (.int y :: .int x :: st) :=
  fun H locs ls hP hD hS hl => va_mmin C.1 C.2.1 (by rw [C.2.2.1]; exact hl.1.symm) C.2.2.2.1 (C.2.2.2.2.1 _ h1) (C.2.2.2.2.1 _ h2) (C.2.2.2.2.1 _ h3) (C.2.2.2.2.1 _ h4) hR.1 hR.2.1 hR.2.2.1 hR.2.2.2 hdg (by rw [hv]; exact kk H locs ls hP hD hS hl)
theorem z_mmax (C : zK sa D cl tys A p s m args meth c cc nL own Ts ret) {index : Nat} {x y v : Int32} (h1 : Cond.methodLink own index Lib.Math.max.name ∈ Ts) (h2 : Cond.static Lib.Math.max.name ∈ Ts) (h3 : Cond.initialized "java/lang/Math" ∈ Ts) (h4 : Cond.code Lib.Math.max.name Lib.Math.max.code 2 (some .int) ∈ Ts) (hR : 1 ≤ R.frames ∧ (st.map fun v => v.category).sum + 13 ≤ R.locals ∧ cells ≤ R.cells ∧ slots ≤ R.slots) (hdg : decode cc pc = .ok (.invokestatic index, 3)) (hv : (if x < y then y else x) = v) (kk : zW p l e R s m args below meth c Q D cl A nL cells slots ws lv (pc + 3) (.int v :: st)) : zW p l e R s m args below meth c Q D cl A nL cells slots ws lv pc (.int y :: .int x :: st) :=
  fun H locs ls hP hD hS hl => va_mmax C.1 C.2.1 (by rw [C.2.2.1]; exact hl.1.symm) C.2.2.2.1 (C.2.2.2.2.1 _ h1) (C.2.2.2.2.1 _ h2) (C.2.2.2.2.1 _ h3) (C.2.2.2.2.1 _ h4) hR.1 hR.2.1 hR.2.2.1 hR.2.2.2 hdg (by rw [hv]; exact kk H locs ls hP hD hS hl)
theorem z_widen {k n : Nat} (h1 : cells ≤ k) (h2 : slots ≤ n) (kk : zW p l e R s m args below meth c Q D cl A nL k n ws lv pc st) : zW p l e R s m args below meth c Q D cl A nL cells slots ws lv pc st :=
  fun H locs ls hP hD hS hl => W.widen h1 h2 (kk H locs ls hP hD hS hl)
theorem z_perm (ws' : va_W) (ks : List Nat) (hks : ks.map (fun i => ws[i]?) = ws'.map some) (hnk : va_nd ks = true) (kk : zW p l e R s m args below meth c Q D cl A nL cells slots ws' lv pc st) : zW p l e R s m args below meth c Q D cl A nL cells slots ws lv pc st :=
  fun H locs ls hP hD hS hl => kk H locs ls (hP.sub ks (zfm hks)) (hD.sub ks hnk hks) hS hl
theorem z_lv (lv' : List (Nat × Value)) (ks : List Nat) (hks : lv_pick lv ks = lv') (kk : zW p l e R s m args below meth c Q D cl A nL cells slots ws lv' pc st) : zW p l e R s m args below meth c Q D cl A nL cells slots ws lv pc st :=
  fun H locs ls hP hD hS hl => kk H locs ls hP hD hS (lv_sub hl ks hks)
theorem z_eq {pc' : Nat} (h : pc = pc') (kk : zW p l e R s m args below meth c Q D cl A nL cells slots ws lv pc' st) : zW p l e R s m args below meth c Q D cl A nL cells slots ws lv pc st := h ▸ kk
/-- how a method starts: its arguments, its world, and what zG says -/
def zPc (sa : Nat → Nat) (D : va_G) (cl : List vw_C) (tys : List (ClassId × FieldType)) (av : List Value) (wc : va_W) (sz : Nat) : Array Value → State → Prop := va_Pc av (fun U => U.heap.size = sz ∧ va_P D cl wc U.heap ∧ va_K D cl tys U ∧ va_D (fun _ => True) wc ∧ zG sa (va_A wc sz) U U.heap)
def zB (D : va_G) (cl : List vw_C) (tys : List (ClassId × FieldType)) (wc : va_W) (sz : Nat) (w1 : va_W) (t : State) : Prop := va_P D cl w1 t.heap ∧ va_K D cl tys t ∧ va_D (va_A wc sz) w1
/-- returns an int (or a boolean) -/
def zMi {T : Type} (sa : Nat → Nat) (D : va_G) (cl : List vw_C) (tys : List (ClassId × FieldType)) (l : Launch) (y : MethodName) (wsy : List Cond) (rm : Room) (av : List Value) (wc : va_W) (post : Int32 → T → Prop) (w1 : T → va_W) (mc ms : Nat) : Prop :=
  ∀ sz : Nat, Met l y wsy rm (zPc sa D cl tys av wc sz) (va_Qi post (fun u t => zB D cl tys wc sz (w1 u) t) (va_A wc sz)) mc ms (va_A wc sz)
/-- returns nothing -/
def zMv {T : Type} (sa : Nat → Nat) (D : va_G) (cl : List vw_C) (tys : List (ClassId × FieldType)) (l : Launch) (y : MethodName) (wsy : List Cond) (rm : Room) (av : List Value) (wc : va_W) (post : T → Prop) (w1 : T → va_W) (mc ms : Nat) : Prop :=
  ∀ sz : Nat, Met l y wsy rm (zPc sa D cl tys av wc sz) (va_Qv post (fun u t => zB D cl tys wc sz (w1 u) t) (va_A wc sz)) mc ms (va_A wc sz)
/-- throws an E, the world as it was -/
def zXC (D : va_G) (cl : List vw_C) (tys : List (ClassId × FieldType)) (E : String) (wc : va_W) (sz : Nat) : String → State → State → Prop := vx_X (S := Unit) (fun _ => True) (fun E1 _ t => E1 = E ∧ zB D cl tys wc sz wc t) (va_A wc sz)
def zX (sa : Nat → Nat) (D : va_G) (cl : List vw_C) (tys : List (ClassId × FieldType)) (l : Launch) (y : MethodName) (wsy : List Cond) (rm : Room) (av : List Value) (wc : va_W) (E : String) (mc ms : Nat) : Prop :=
  ∀ sz : Nat, vx_Met l y wsy rm (zPc sa D cl tys av wc sz) (fun _ _ _ _ => False) (zXC D cl tys E wc sz) mc ms (va_A wc sz)
theorem zPc.blind {sa : Nat → Nat} {D : va_G} {cl : List vw_C} {tys : List (ClassId × FieldType)} {av : List Value} {wc : va_W} {sz : Nat} : FrameBlind (zPc sa D cl tys av wc sz) := fun a U g mk q => by
  obtain ⟨q0, q1, qP, qK, qD, qG⟩ := q
  exact ⟨q0, q1, qP, va_K.moved (u := U) (U := U.calling g mk a) (Vm.Alike.refl U.vm) qK, qD, zG.go (U := U.calling g mk a) (State.WarmedH.refl U) qG (fun _ _ _ => rfl) (fun _ h => h)⟩
theorem zPc.at_ (C : zK sa D cl tys A p s m args meth c cc nL own Ts ret) {H : Heap} {locs : List Loc} {av : List Value} {wc : va_W} (hP : va_P D cl wc H) (hD : va_D A wc) (hS : va_S A s.heap H locs) : ∀ U : State, U.heap = H → s.WarmedH U.vm → zPc sa D cl tys av wc H.size av.toArray U := by
  intro U hU hW
  subst hU
  refine ⟨rfl, rfl, hP, va_K.moved hW.alike C.2.2.2.2.2.1, hD.weaken (fun _ _ _ _ => trivial), zG.go hW C.2.2.2.2.2.2.2.1 hS.2.1 (fun q h => ?_)⟩
  rcases h with ⟨k, e, h⟩ | h
  · exact hD.2 k (q, e) h
  · exact C.2.2.2.2.2.2.1 q (Nat.le_trans hS.1 h)
theorem zPc.free (C : zK sa D cl tys A p s m args meth c cc nL own Ts ret) {H : Heap} {locs : List Loc} {wc : va_W} (hD : va_D A wc) (hS : va_S A s.heap H locs) : ∀ q : Nat, va_A wc H.size q → A q := by
  intro q h
  rcases h with ⟨k, e, h⟩ | h
  · exact hD.2 k (q, e) h
  · exact C.2.2.2.2.2.2.1 q (Nat.le_trans hS.1 h)
theorem z_callVi (C : zK sa D cl tys A p s m args meth c cc nL own Ts ret) {T : Type} {y : MethodName} {wsy : List Cond} {rm : Room} {bytes : ByteArray} {maxL mc ms n index : Nat} {ret9 : Option FieldType} {Cn : String} {a : Nat} {As : List Value} {wc : va_W} {post : Int32 → T → Prop} {w1 : T → va_W} {ws' : T → va_W} (hM : zMi sa D cl tys l y wsy rm (.ref a :: As) wc post w1 mc ms) (cw : CallW R s args own Cn index y bytes maxL ret9 wsy rm mc ms n) (q0 : Nat) {ci : Nat} {fs : List Value} {cq : vw_C} (he : ws[q0]? = some (a, .inr (ci, fs))) (hcl : cl[ci]? = some cq) (hcq : cq.1 = Cn) (hsub : ∀ u, zSub ws wc (w1 u) (ws' u)) (hex : zIn ws wc) (hn9 : As.length = n) (hst : (rest.map fun v => v.category).sum ≤ 8) (hf : cells + mc ≤ R.cells ∧ slots + ms ≤ R.slots) (hdg : decode cc pc = .ok (.invokevirtual index, 3)) (kk : ∀ (r : Int32) (u : T), post r u → zW p l e R s m args below meth c Q D cl A nL (cells + mc) (slots + ms) (ws' u) lv (pc + 3) (.int r :: rest)) : zW p l e R s m args below meth c Q D cl A nL cells slots ws lv pc (As.reverse ++ .ref a :: rest) :=
  by
  intro H locs ls hP hD hS hl
  have hsub0 := hex
  have hF : ∀ q : Nat, va_A wc H.size q → A q := zPc.free C (hsub0.2 A hD) hS
  refine va_calli (va_runV (As := As) (rest := rest) ⟨C.1, C.2.1, C.2.2.1, C.2.2.2.1, C.2.2.2.2.1⟩ (hM H.size) cw ⟨zPc.blind, (by rw [← hcq]; exact va_recv C.2.2.2.2.2.1 hP hcl he), zPc.at_ C (hsub0.1 D cl H hP) (hsub0.2 A hD) hS⟩ rfl hn9 hl.1 rfl (lv_room hst) hdg hf) hS (fun q _ h => hF q h) hF (fun r u t H1 locs1 ht hvm hw hB hz1 hk1 hS1 => ?_)
  obtain ⟨hP1, hK1, hD1⟩ := hB
  rw [ht] at hP1
  obtain ⟨g1, g2⟩ := (hsub u).2.2 D cl A H H1 hP hD hF hk1 hP1 hD1
  exact kk r u hw H1 locs1 ls g1 g2 hS1 hl
theorem z_callVv (C : zK sa D cl tys A p s m args meth c cc nL own Ts ret) {T : Type} {y : MethodName} {wsy : List Cond} {rm : Room} {bytes : ByteArray} {maxL mc ms n index : Nat} {ret9 : Option FieldType} {Cn : String} {a : Nat} {As : List Value} {wc : va_W} {post : T → Prop} {w1 : T → va_W} {ws' : T → va_W} (hM : zMv sa D cl tys l y wsy rm (.ref a :: As) wc post w1 mc ms) (cw : CallW R s args own Cn index y bytes maxL ret9 wsy rm mc ms n) (q0 : Nat) {ci : Nat} {fs : List Value} {cq : vw_C} (he : ws[q0]? = some (a, .inr (ci, fs))) (hcl : cl[ci]? = some cq) (hcq : cq.1 = Cn) (hsub : ∀ u, zSub ws wc (w1 u) (ws' u)) (hex : zIn ws wc) (hn9 : As.length = n) (hst : (rest.map fun v => v.category).sum ≤ 8) (hf : cells + mc ≤ R.cells ∧ slots + ms ≤ R.slots) (hdg : decode cc pc = .ok (.invokevirtual index, 3)) (kk : ∀ (u : T), post u → zW p l e R s m args below meth c Q D cl A nL (cells + mc) (slots + ms) (ws' u) lv (pc + 3) rest) : zW p l e R s m args below meth c Q D cl A nL cells slots ws lv pc (As.reverse ++ .ref a :: rest) :=
  by
  intro H locs ls hP hD hS hl
  have hsub0 := hex
  have hF : ∀ q : Nat, va_A wc H.size q → A q := zPc.free C (hsub0.2 A hD) hS
  refine va_callv (va_runV (As := As) (rest := rest) ⟨C.1, C.2.1, C.2.2.1, C.2.2.2.1, C.2.2.2.2.1⟩ (hM H.size) cw ⟨zPc.blind, (by rw [← hcq]; exact va_recv C.2.2.2.2.2.1 hP hcl he), zPc.at_ C (hsub0.1 D cl H hP) (hsub0.2 A hD) hS⟩ rfl hn9 hl.1 rfl (lv_room hst) hdg hf) hS (fun q _ h => hF q h) hF (fun u t H1 locs1 ht hvm hw hB hz1 hk1 hS1 => ?_)
  obtain ⟨hP1, hK1, hD1⟩ := hB
  rw [ht] at hP1
  obtain ⟨g1, g2⟩ := (hsub u).2.2 D cl A H H1 hP hD hF hk1 hP1 hD1
  exact kk u hw H1 locs1 ls g1 g2 hS1 hl
theorem z_callSi (C : zK sa D cl tys A p s m args meth c cc nL own Ts ret) {T : Type} {y : MethodName} {wsy : List Cond} {rm : Room} {bytes : ByteArray} {maxL mc ms n index : Nat} {ret9 : Option FieldType} {As : List Value} {wc : va_W} {post : Int32 → T → Prop} {w1 : T → va_W} {ws' : T → va_W} (hM : zMi sa D cl tys l y wsy rm As wc post w1 mc ms) (cw : CallB R s args own index y bytes maxL ret9 wsy rm mc ms n ∧ (Cond.static y).before args s = true) (hsub : ∀ u, zSub ws wc (w1 u) (ws' u)) (hex : zIn ws wc) (hn9 : As.length = n) (hst : (rest.map fun v => v.category).sum ≤ 8) (hf : cells + mc ≤ R.cells ∧ slots + ms ≤ R.slots) (hdg : decode cc pc = .ok (.invokestatic index, 3)) (kk : ∀ (r : Int32) (u : T), post r u → zW p l e R s m args below meth c Q D cl A nL (cells + mc) (slots + ms) (ws' u) lv (pc + 3) (.int r :: rest)) : zW p l e R s m args below meth c Q D cl A nL cells slots ws lv pc (As.reverse ++ rest) :=
  by
  intro H locs ls hP hD hS hl
  have hsub0 := hex
  have hF : ∀ q : Nat, va_A wc H.size q → A q := zPc.free C (hsub0.2 A hD) hS
  refine va_calli (va_runS (As := As) (rest := rest) ⟨C.1, C.2.1, C.2.2.1, C.2.2.2.1, C.2.2.2.2.1⟩ (hM H.size) cw ⟨zPc.blind, zPc.at_ C (hsub0.1 D cl H hP) (hsub0.2 A hD) hS⟩ rfl hn9 hl.1 rfl (lv_room hst) hdg hf) hS (fun q _ h => hF q h) hF (fun r u t H1 locs1 ht hvm hw hB hz1 hk1 hS1 => ?_)
  obtain ⟨hP1, hK1, hD1⟩ := hB
  rw [ht] at hP1
  obtain ⟨g1, g2⟩ := (hsub u).2.2 D cl A H H1 hP hD hF hk1 hP1 hD1
  exact kk r u hw H1 locs1 ls g1 g2 hS1 hl
theorem z_callSv (C : zK sa D cl tys A p s m args meth c cc nL own Ts ret) {T : Type} {y : MethodName} {wsy : List Cond} {rm : Room} {bytes : ByteArray} {maxL mc ms n index : Nat} {ret9 : Option FieldType} {As : List Value} {wc : va_W} {post : T → Prop} {w1 : T → va_W} {ws' : T → va_W} (hM : zMv sa D cl tys l y wsy rm As wc post w1 mc ms) (cw : CallB R s args own index y bytes maxL ret9 wsy rm mc ms n ∧ (Cond.static y).before args s = true) (hsub : ∀ u, zSub ws wc (w1 u) (ws' u)) (hex : zIn ws wc) (hn9 : As.length = n) (hst : (rest.map fun v => v.category).sum ≤ 8) (hf : cells + mc ≤ R.cells ∧ slots + ms ≤ R.slots) (hdg : decode cc pc = .ok (.invokestatic index, 3)) (kk : ∀ (u : T), post u → zW p l e R s m args below meth c Q D cl A nL (cells + mc) (slots + ms) (ws' u) lv (pc + 3) rest) : zW p l e R s m args below meth c Q D cl A nL cells slots ws lv pc (As.reverse ++ rest) :=
  by
  intro H locs ls hP hD hS hl
  have hsub0 := hex
  have hF : ∀ q : Nat, va_A wc H.size q → A q := zPc.free C (hsub0.2 A hD) hS
  refine va_callv (va_runS (As := As) (rest := rest) ⟨C.1, C.2.1, C.2.2.1, C.2.2.2.1, C.2.2.2.2.1⟩ (hM H.size) cw ⟨zPc.blind, zPc.at_ C (hsub0.1 D cl H hP) (hsub0.2 A hD) hS⟩ rfl hn9 hl.1 rfl (lv_room hst) hdg hf) hS (fun q _ h => hF q h) hF (fun u t H1 locs1 ht hvm hw hB hz1 hk1 hS1 => ?_)
  obtain ⟨hP1, hK1, hD1⟩ := hB
  rw [ht] at hP1
  obtain ⟨g1, g2⟩ := (hsub u).2.2 D cl A H H1 hP hD hF hk1 hP1 hD1
  exact kk u hw H1 locs1 ls g1 g2 hS1 hl
theorem z_callSNi (C : zK sa D cl tys A p s m args meth c cc nL own Ts ret) {T : Type} {y : MethodName} {wsy : List Cond} {rm : Room} {bytes : ByteArray} {maxL mc ms n index : Nat} {ret9 : Option FieldType} {As : List Value} {wc : va_W} {post : Int32 → T → Prop} {w1 : T → va_W} {ws' : T → va_W} (hM : zMi sa D cl tys l y wsy rm As wc post w1 mc ms) (cw : va_CN R s args own index y RX4 bytes maxL ret9 wsy rm mc ms n ∧ (Cond.static y).before args s = true ∧ True) (hsub : ∀ u, zSub ws wc (w1 u) (ws' u)) (hex : zIn ws wc) (hn9 : As.length = n) (hst : (rest.map fun v => v.category).sum ≤ 8) (hf : cells + mc ≤ R.cells ∧ slots + ms ≤ R.slots) (hdg : decode cc pc = .ok (.invokestatic index, 3)) (kk : ∀ (r : Int32) (u : T), post r u → zW p l e R s m args below meth c Q D cl A nL (cells + mc) (slots + ms) (ws' u) lv (pc + 3) (.int r :: rest)) : zW p l e R s m args below meth c Q D cl A nL cells slots ws lv pc (As.reverse ++ rest) :=
  by
  intro H locs ls hP hD hS hl
  have hsub0 := hex
  have hF : ∀ q : Nat, va_A wc H.size q → A q := zPc.free C (hsub0.2 A hD) hS
  refine va_calli (va_runSN (As := As) (rest := rest) ⟨C.1, C.2.1, C.2.2.1, C.2.2.2.1, C.2.2.2.2.1⟩ (hM H.size) cw ⟨zPc.blind, zPc.at_ C (hsub0.1 D cl H hP) (hsub0.2 A hD) hS⟩ rfl hn9 hl.1 rfl (lv_room hst) hdg hf) hS (fun q _ h => hF q h) hF (fun r u t H1 locs1 ht hvm hw hB hz1 hk1 hS1 => ?_)
  obtain ⟨hP1, hK1, hD1⟩ := hB
  rw [ht] at hP1
  obtain ⟨g1, g2⟩ := (hsub u).2.2 D cl A H H1 hP hD hF hk1 hP1 hD1
  exact kk r u hw H1 locs1 ls g1 g2 hS1 hl
theorem z_callIv (C : zK sa D cl tys A p s m args meth c cc nL own Ts ret) {T : Type} {y : MethodName} {wsy : List Cond} {rm : Room} {bytes : ByteArray} {maxL mc ms n index : Nat} {ret9 : Option FieldType} {a : Nat} {As : List Value} {wc : va_W} {post : T → Prop} {w1 : T → va_W} {ws' : T → va_W} (hM : zMv sa D cl tys l y wsy rm (.ref a :: As) wc post w1 mc ms) (cw : CallB R s args own index y bytes maxL none wsy rm mc ms n ∧ y.name = "<init>" ∧ (Cond.instanceMethod y).before args s = true) (hsub : ∀ u, zSub ws wc (w1 u) (ws' u)) (hex : zIn ws wc) (hn9 : As.length = n) (hst : (rest.map fun v => v.category).sum ≤ 8) (hf : cells + mc ≤ R.cells ∧ slots + ms ≤ R.slots) (hdg : decode cc pc = .ok (.invokespecial index, 3)) (kk : ∀ (u : T), post u → zW p l e R s m args below meth c Q D cl A nL (cells + mc) (slots + ms) (ws' u) lv (pc + 3) rest) : zW p l e R s m args below meth c Q D cl A nL cells slots ws lv pc (As.reverse ++ .ref a :: rest) :=
  by
  intro H locs ls hP hD hS hl
  have hsub0 := hex
  have hF : ∀ q : Nat, va_A wc H.size q → A q := zPc.free C (hsub0.2 A hD) hS
  refine va_callv (va_runI (As := As) (rest := rest) ⟨C.1, C.2.1, C.2.2.1, C.2.2.2.1, C.2.2.2.2.1⟩ (hM H.size) cw ⟨zPc.blind, zPc.at_ C (hsub0.1 D cl H hP) (hsub0.2 A hD) hS⟩ rfl hn9 hl.1 rfl (lv_room hst) hdg hf) hS (fun q _ h => hF q h) hF (fun u t H1 locs1 ht hvm hw hB hz1 hk1 hS1 => ?_)
  obtain ⟨hP1, hK1, hD1⟩ := hB
  rw [ht] at hP1
  obtain ⟨g1, g2⟩ := (hsub u).2.2 D cl A H H1 hP hD hF hk1 hP1 hD1
  exact kk u hw H1 locs1 ls g1 g2 hS1 hl
end ZZ
end
section
/-! entries and ends of methods; throws and catches -/
section ZC
theorem zmet_ofWH {l : Launch} {y : MethodName} {ws ws' : List Cond} {rm : Room} {Pc : Array Value → State → Prop} {Qc : Array Value → State → Outcome → State → Prop} {mc ms : Nat} {free : Addr → Prop} {cc : ByteArray} {maxL : Nat} {ret : Option FieldType} {hh : List (Nat × Nat × Nat × Nat)}
    (hy : plainName y.cls = true) (hw : ws = Cond.codeWith y cc maxL ret hh :: ws')
    (body : ∀ p e s m args below meth c s₁, BodyLoose p l y (headSpec ws rm) cc maxL ret e s m args below meth c s₁ → c.maxLocals = maxL → Pc args s →
      W p l e (headSpec ws rm).room s m args below meth c s.heap [] 0 0 (MQ below Qc args s mc ms free) (entryFrame m args maxL)) : Met l y ws rm Pc Qc mc ms free := by
  refine MetFree.of_bodyS (code := cc) (maxLocals := maxL) (ret := ret) hy ?_ ?_
  · intro args s m h hn
    obtain ⟨m9, meth, c, hn9, h1, h2, h3, h4, -, h5, h6, -⟩ := Cond.codeWith_spec (atoms_spec (ws := ws) h _ (by rw [hw]; exact List.mem_cons_self))
    cases hn.symm.trans hn9
    exact ⟨meth, c, h1, h2, h3, h4, h5, h6⟩
  · intro p e s m args below meth c s₁ B hml hP _
    have hh0 : s₁.heap = s.heap := by rw [B.state]; rfl
    obtain ⟨t, a1, o, b1, b2, b3⟩ := body p e s m args below meth c s₁ B hml hP s₁ hh0 (Stand.of_body B)
    exact ⟨t, o, a1, b1, b2, ⟨b3.1, b3.2⟩⟩
variable {p : Program} {l : Launch} {e : Env} {R : Room} {s : State} {m : MethodId} {args : Array Value} {below : List Frame} {meth : Method} {c : Code} {Q : State → Prop} {D : va_G} {cl : List vw_C} {A : Nat → Prop} {tys : List (ClassId × FieldType)} {cc : ByteArray} {nL : Nat} {own : String} {Ts : List Cond} {sa : Nat → Nat} {ret : Option FieldType}
variable {cells slots : Nat} {ws ws' : va_W} {lv lv' : List (Nat × Value)} {pc : Nat} {st rest : List Value}
def zQi {T : Type} (D : va_G) (cl : List vw_C) (tys : List (ClassId × FieldType)) (A : Nat → Prop) (post : Int32 → T → Prop) (w1 : T → va_W) : Array Value → State → Outcome → State → Prop := va_Qi post (fun u t => va_P D cl (w1 u) t.heap ∧ va_K D cl tys t ∧ va_D A (w1 u)) A
def zQv {T : Type} (D : va_G) (cl : List vw_C) (tys : List (ClassId × FieldType)) (A : Nat → Prop) (post : T → Prop) (w1 : T → va_W) : Array Value → State → Outcome → State → Prop := va_Qv post (fun u t => va_P D cl (w1 u) t.heap ∧ va_K D cl tys t ∧ va_D A (w1 u)) A
def zQx (D : va_G) (cl : List vw_C) (tys : List (ClassId × FieldType)) (A : Nat → Prop) (E : String) (wc : va_W) : String → State → State → Prop := vx_X (S := Unit) (fun _ => True) (fun E1 _ t => E1 = E ∧ va_P D cl wc t.heap ∧ va_K D cl tys t ∧ va_D A wc) A

theorem zMi.of {T : Type} {post : Int32 → T → Prop} {w1 : T → va_W} {y : MethodName} {wsy wsy' : List Cond} {rm : Room} {av : List Value} {wc : va_W} {mc ms : Nat} (hy : plainName y.cls = true) (hw : wsy = Cond.code y cc nL ret :: wsy') (lv0 : List (Nat × Value)) (hlv : lv_args 0 av = lv0) (hsl : (lg_sl av).length ≤ nL) (hown : y.cls = own)
    (body : ∀ (A : Nat → Prop) (p : Program) (e : Env) (s : State) (m : MethodId) (args : Array Value) (below : List Frame) (meth : Method) (c : Code), zK sa D cl tys A p s m args meth c cc nL own wsy ret → meth.name = y.name →
      zW p l e rm s m args below meth c (MQ below (zQi D cl tys A post w1) args s mc ms A) D cl A nL 0 0 wc lv0 0 []) : zMi sa D cl tys l y wsy rm av wc post w1 mc ms := by
  intro sz
  refine Met.ofW (cc := cc) (maxL := nL) (ret := ret) hy hw ?_
  intro p e s m args below meth c s₁ B hml hv
  obtain ⟨rfl, hsz, hP, hK, hD0, hG⟩ := hv
  have hts := atoms_spec (ws := wsy) B.pre
  have hown2 : s.vm.findClass own = some m.cls := by rw [← hown]; exact findClass_of_methodNamed B.named
  subst hsz
  have hD := hD0.self (sz := s.heap.size)
  have hl := lv_entry av (n := nL) hsl
  rw [lg_entry_eq]
  rw [hlv] at hl
  have hA : ∀ q : Nat, s.heap.size ≤ q → va_A wc s.heap.size q := fun q h => Or.inr h
  exact body (va_A wc s.heap.size) p e s m _ below meth c ⟨B.exec, B.bytes, hml, hown2, hts, hK, hA, hG, B.notSynchronized, B.returns⟩ (name_of_methodNamed B.named B.method).1 s.heap [] _ hP hD va_S.rf hl
theorem zMv.of {T : Type} {post : T → Prop} {w1 : T → va_W} {y : MethodName} {wsy wsy' : List Cond} {rm : Room} {av : List Value} {wc : va_W} {mc ms : Nat} (hy : plainName y.cls = true) (hw : wsy = Cond.code y cc nL ret :: wsy') (lv0 : List (Nat × Value)) (hlv : lv_args 0 av = lv0) (hsl : (lg_sl av).length ≤ nL) (hown : y.cls = own)
    (body : ∀ (A : Nat → Prop) (p : Program) (e : Env) (s : State) (m : MethodId) (args : Array Value) (below : List Frame) (meth : Method) (c : Code), zK sa D cl tys A p s m args meth c cc nL own wsy ret → meth.name = y.name →
      zW p l e rm s m args below meth c (MQ below (zQv D cl tys A post w1) args s mc ms A) D cl A nL 0 0 wc lv0 0 []) : zMv sa D cl tys l y wsy rm av wc post w1 mc ms := by
  intro sz
  refine Met.ofW (cc := cc) (maxL := nL) (ret := ret) hy hw ?_
  intro p e s m args below meth c s₁ B hml hv
  obtain ⟨rfl, hsz, hP, hK, hD0, hG⟩ := hv
  have hts := atoms_spec (ws := wsy) B.pre
  have hown2 : s.vm.findClass own = some m.cls := by rw [← hown]; exact findClass_of_methodNamed B.named
  subst hsz
  have hD := hD0.self (sz := s.heap.size)
  have hl := lv_entry av (n := nL) hsl
  rw [lg_entry_eq]
  rw [hlv] at hl
  have hA : ∀ q : Nat, s.heap.size ≤ q → va_A wc s.heap.size q := fun q h => Or.inr h
  exact body (va_A wc s.heap.size) p e s m _ below meth c ⟨B.exec, B.bytes, hml, hown2, hts, hK, hA, hG, B.notSynchronized, B.returns⟩ (name_of_methodNamed B.named B.method).1 s.heap [] _ hP hD va_S.rf hl
theorem zX.of {E : String} {y : MethodName} {wsy wsy' : List Cond} {rm : Room} {av : List Value} {wc : va_W} {mc ms : Nat} (hy : plainName y.cls = true) (hw : wsy = Cond.code y cc nL ret :: wsy') (lv0 : List (Nat × Value)) (hlv : lv_args 0 av = lv0) (hsl : (lg_sl av).length ≤ nL) (hown : y.cls = own)
    (body : ∀ (A : Nat → Prop) (p : Program) (e : Env) (s : State) (m : MethodId) (args : Array Value) (below : List Frame) (meth : Method) (c : Code), zK sa D cl tys A p s m args meth c cc nL own wsy ret → meth.name = y.name → (∀ x ∈ c.exceptionTable.toList, False) →
      zW p l e rm s m args below meth c (vx_MQ below (fun _ _ _ _ => False) (zQx D cl tys A E wc) args s mc ms A) D cl A nL 0 0 wc lv0 0 []) : zX sa D cl tys l y wsy rm av wc E mc ms := by
  intro sz
  refine vx_ofW (cc := cc) (maxL := nL) (ret := ret) hy hw ?_
  intro p e s m args below meth c s₁ B hml ht hv
  obtain ⟨rfl, hsz, hP, hK, hD0, hG⟩ := hv
  have hts := atoms_spec (ws := wsy) B.pre
  have hown2 : s.vm.findClass own = some m.cls := by rw [← hown]; exact findClass_of_methodNamed B.named
  subst hsz
  have hD := hD0.self (sz := s.heap.size)
  have hl := lv_entry av (n := nL) hsl
  rw [lg_entry_eq]
  rw [hlv] at hl
  have hA : ∀ q : Nat, s.heap.size ≤ q → va_A wc s.heap.size q := fun q h => Or.inr h
  exact body (va_A wc s.heap.size) p e s m _ below meth c ⟨B.exec, B.bytes, hml, hown2, hts, hK, hA, hG, B.notSynchronized, B.returns⟩ (name_of_methodNamed B.named B.method).1 ht s.heap [] _ hP hD va_S.rf hl
theorem zMi.ofH {T : Type} {post : Int32 → T → Prop} {w1 : T → va_W} {y : MethodName} {wsy wsy' : List Cond} {rm : Room} {av : List Value} {wc : va_W} {mc ms : Nat} {hh : List (Nat × Nat × Nat × Nat)} (hy : plainName y.cls = true) (hw : wsy = Cond.codeWith y cc nL ret hh :: wsy') (lv0 : List (Nat × Value)) (hlv : lv_args 0 av = lv0) (hsl : (lg_sl av).length ≤ nL) (hown : y.cls = own)
    (body : ∀ (A : Nat → Prop) (p : Program) (e : Env) (s : State) (m : MethodId) (args : Array Value) (below : List Frame) (meth : Method) (c : Code), zK sa D cl tys A p s m args meth c cc nL own wsy ret → meth.name = y.name → c.exceptionTable.toList = tableOf hh →
      zW p l e rm s m args below meth c (MQ below (zQi D cl tys A post w1) args s mc ms A) D cl A nL 0 0 wc lv0 0 []) : zMi sa D cl tys l y wsy rm av wc post w1 mc ms := by
  intro sz
  refine zmet_ofWH (cc := cc) (maxL := nL) (ret := ret) hy hw ?_
  intro p e s m args below meth c s₁ B hml hv
  obtain ⟨rfl, hsz, hP, hK, hD0, hG⟩ := hv
  have hts := atoms_spec (ws := wsy) B.pre
  have hown2 : s.vm.findClass own = some m.cls := by rw [← hown]; exact findClass_of_methodNamed B.named
  subst hsz
  have hD := hD0.self (sz := s.heap.size)
  have hl := lv_entry av (n := nL) hsl
  rw [lg_entry_eq]
  rw [hlv] at hl
  have hA : ∀ q : Nat, s.heap.size ≤ q → va_A wc s.heap.size q := fun q h => Or.inr h
  exact body (va_A wc s.heap.size) p e s m _ below meth c ⟨B.exec, B.bytes, hml, hown2, hts, hK, hA, hG, B.notSynchronized, B.returns⟩ (name_of_methodNamed B.named B.method).1 (vx_table (x := y) B (hts _ (by rw [hw]; exact List.mem_cons_self))) s.heap [] _ hP hD va_S.rf hl
theorem z_iret {T : Type} {post : Int32 → T → Prop} {w1 : T → va_W} {mc ms : Nat} {v : Int32} (C : zK sa D cl tys A p s m args meth c cc nL own Ts (some .int)) (u : T) (hp : post v u) (hw : w1 u = ws) (hc : cells ≤ mc) (hs : slots ≤ ms) (hdg : decode cc pc = .ok (.ireturn, 1)) : zW p l e R s m args below meth c (MQ below (zQi D cl tys A post w1) args s mc ms A) D cl A nL cells slots ws lv pc [.int v] :=
  fun H locs ls hP hD hS hl => W.widen hc hs (W.iret C.1 C.2.1 C.2.2.2.2.2.2.2.2.2 (fun t ht hW => ⟨⟨v, u, rfl, hp, by rw [hw, ht]; exact hP, va_K.moved hW.alike C.2.2.2.2.2.1, by rw [hw]; exact hD⟩, hS.F ht⟩) hS.2.2 hdg C.2.2.2.2.2.2.2.2.1)
theorem z_zret {T : Type} {post : Int32 → T → Prop} {w1 : T → va_W} {mc ms : Nat} {v : Int32} (C : zK sa D cl tys A p s m args meth c cc nL own Ts (some .boolean)) (u : T) (hp : post v u) (hw : w1 u = ws) (hc : cells ≤ mc) (hs : slots ≤ ms) (hn : narrow .boolean (.int v) = .int v) (hdg : decode cc pc = .ok (.ireturn, 1)) : zW p l e R s m args below meth c (MQ below (zQi D cl tys A post w1) args s mc ms A) D cl A nL cells slots ws lv pc [.int v] :=
  fun H locs ls hP hD hS hl => W.widen hc hs (W.zret C.1 C.2.1 C.2.2.2.2.2.2.2.2.2 hn (fun t ht hW => ⟨⟨v, u, rfl, hp, by rw [hw, ht]; exact hP, va_K.moved hW.alike C.2.2.2.2.2.1, by rw [hw]; exact hD⟩, hS.F ht⟩) hS.2.2 hdg C.2.2.2.2.2.2.2.2.1)
theorem z_vret {T : Type} {post : T → Prop} {w1 : T → va_W} {mc ms : Nat} (C : zK sa D cl tys A p s m args meth c cc nL own Ts none) (u : T) (hp : post u) (hw : w1 u = ws) (hc : cells ≤ mc) (hs : slots ≤ ms) (hdg : decode cc pc = .ok (.return_, 1)) : zW p l e R s m args below meth c (MQ below (zQv D cl tys A post w1) args s mc ms A) D cl A nL cells slots ws lv pc [] :=
  fun H locs ls hP hD hS hl => W.widen hc hs (W.vret C.1 C.2.1 C.2.2.2.2.2.2.2.2.2 (fun t ht hW => ⟨⟨u, rfl, hp, by rw [hw, ht]; exact hP, va_K.moved hW.alike C.2.2.2.2.2.1, by rw [hw]; exact hD⟩, hS.F ht⟩) hS.2.2 hdg C.2.2.2.2.2.2.2.2.1)
/-- an E thrown over the frame -/
def zT (p : Program) (l : Launch) (e : Env) (R : Room) (s : State) (m : MethodId) (args : Array Value) (below : List Frame) (meth : Method) (c : Code) (Q : State → Prop) (D : va_G) (cl : List vw_C) (A : Nat → Prop) (nL cells slots : Nat) (ws : va_W) (lv : List (Nat × Value)) (pc : Nat) (st : List Value) (E : String) : Prop :=
  ∀ (H : Heap) (locs : List Loc) (ls : Array Slot) (q : Addr) (ce : Cell), va_P D cl ws H → va_D A ws → va_S A s.heap H locs → lv_has ls nL lv → H[q]? = some ce → ce.vm = .none → s.vm.findClass E = some ce.cls → vx_W p l e R s m args below meth c H locs cells slots Q (F0 m pc ls st) q

theorem z_out {E : String} {mc ms : Nat} (C : zK sa D cl tys A p s m args meth c cc nL own Ts ret) (ht : ∀ x ∈ c.exceptionTable.toList, False) (hc : cells ≤ mc) (hs : slots ≤ ms) : zT p l e R s m args below meth c (vx_MQ below (fun _ _ _ _ => False) (zQx D cl tys A E ws) args s mc ms A) D cl A nL cells slots ws lv pc st E :=
  fun H locs ls q ce hP hD hS hl hq hv hcl => vx_out (fun x hx => (ht x hx).elim) C.2.2.2.2.2.2.2.2.1 hq hv hcl (fun t ht9 ha => ⟨(), trivial, ⟨rfl, by rw [ht9]; exact hP, va_K.moved ha C.2.2.2.2.2.1, hD⟩, hS.F ht9⟩) hS.2.2 hc hs
/-- throw new E("text") -/
theorem z_throwS {E text : String} {names : List String} {ik is ic mc ms : Nat} (C : zK sa D cl tys A p s m args meth c cc nL own Ts ret) (ht : ∀ x ∈ c.exceptionTable.toList, False) (hfl : l.stackTraces = false) (hown : own = RX4)
    (hcls : Bundle.fit E = true) (hnames : ∀ n ∈ names, Bundle.fit n = true) (hk : Cond.classLink own ik E ∈ Ts) (hini : Cond.initialized E ∈ Ts) (hstr : (is, text) ∈ zStr) (hE : E ∈ zEs)
    (hat1 : ∀ w ∈ (vx_atS own ic E names).filter goodWord, w ∈ Ts) (hat2 : ∀ w ∈ (vx_atS own ic E names).filter (fun w => !goodWord w), w = .castable E E ∨ w ∈ zDs.map Cond.declares)
    (hgood : ∀ w ∈ Cond.classLink own ik E :: Cond.initialized E :: vx_atS own ic E names, vx_ot w = true)
    (d0 : decode cc pc = .ok (.new ik, 3)) (d3 : decode cc (pc + 3) = .ok (.dup, 1)) (d4 : decode cc (pc + 4) = .ok (.ldc is, 2)) (d6 : decode cc (pc + 6) = .ok (.invokespecial ic, 3)) (d9 : decode cc (pc + 9) = .ok (.athrow, 1))
    (hR : names.length + 3 < R.frames ∧ (st.map fun v => v.category).sum + (13 * (names.length + 1) + 43) ≤ R.locals ∧ cells + 1 ≤ R.cells ∧ slots + 6 ≤ R.slots) (hc : cells + 1 ≤ mc) (hs : slots + 6 ≤ ms) : zW p l e R s m args below meth c (vx_MQ below (fun _ _ _ _ => False) (zQx D cl tys A E ws) args s mc ms A) D cl A nL cells slots ws lv pc st := by
  intro H locs ls hP hD hS hl
  have hG := C.2.2.2.2.2.2.2.1
  refine vx_throwS (A := A) C.1 C.2.1 hfl C.2.2.2.1 hcls hnames (C.2.2.2.2.1 _ hk) (C.2.2.2.2.1 _ hini) (by rw [hown]; exact hG.1 (is, text) hstr) (vx_hat (B := .castable E E :: zDs.map Cond.declares) (fun w hw => C.2.2.2.2.1 _ (hat1 w hw)) (fun w hw => (hat2 w hw).elim (fun h => by rw [h]; exact List.mem_cons_self) (fun h => List.mem_cons_of_mem _ h)) (fun w hw => (List.mem_cons.mp hw).elim (fun h => by rw [h]; exact va_Nw.use rfl (hG.2.2.1 E hE)) (fun h => by obtain ⟨y, hy, rfl⟩ := List.mem_map.mp h; exact va_Nw.use rfl (hG.2.2.2.2.1 y hy)))) hgood hG.2.2.2.2.2.1 hG.2.2.2.2.2.2 hS (by rw [C.2.2.1]; exact hl.1) d0 d3 d4 d6 d9 (fun x hx => (ht x hx).elim) hR.1 hR.2.1 hR.2.2.1 hR.2.2.2 C.2.2.2.2.2.2.2.2.1 ?_ hS.2.2 hc hs
  intro t ha hz hk9
  refine ⟨(), trivial, ⟨rfl, hP.kept (fun k q hq => hk9 q.1 ((hP k q hq).lt)), va_K.moved ha C.2.2.2.2.2.1, hD⟩, Nat.le_trans hS.1 hz, fun q h1 h2 => ?_⟩
  rw [hk9 q (Nat.lt_of_lt_of_le h1 hS.1)]
  exact hS.2.1 q h1 h2

theorem z_callVx (C : zK sa D cl tys A p s m args meth c cc nL own Ts ret) {y : MethodName} {wsy : List Cond} {rm : Room} {bytes : ByteArray} {maxL mc ms n index : Nat} {ret9 : Option FieldType} {Cn : String} {a : Nat} {As : List Value} {wc : va_W} {E : String} (hM : zX sa D cl tys l y wsy rm (.ref a :: As) wc E mc ms) (cw : CallW R s args own Cn index y bytes maxL ret9 wsy rm mc ms n) (q0 : Nat) {ci : Nat} {fs : List Value} {cq : vw_C} (he : ws[q0]? = some (a, .inr (ci, fs))) (hcl : cl[ci]? = some cq) (hcq : cq.1 = Cn) (hsub : zSub ws wc wc ws) (hn9 : As.length = n) (hst : (rest.map fun v => v.category).sum ≤ 8) (hf : cells + mc ≤ R.cells ∧ slots + ms ≤ R.slots) (hdg : decode cc pc = .ok (.invokevirtual index, 3))
    (kk : zT p l e R s m args below meth c (Q) D cl A nL (cells + mc) (slots + ms) ws lv pc rest E) : zW p l e R s m args below meth c (Q) D cl A nL cells slots ws lv pc (As.reverse ++ .ref a :: rest) := by
  intro H locs ls hP hD hS hl
  have hF : ∀ q : Nat, va_A wc H.size q → A q := zPc.free C (hsub.2.1 A hD) hS
  have hr := vx_runV (l := l) (e := e) (below := below) (meth := meth) (H := H) (locs := locs) (cells := cells) (slots := slots) (g := F0 m pc ls (As.reverse ++ .ref a :: rest)) (As := As) (rest := rest) ⟨C.1, C.2.1, C.2.2.1, C.2.2.2.1, C.2.2.2.2.1⟩ (hM H.size) cw ⟨zPc.blind, (by rw [← hcq]; exact va_recv C.2.2.2.2.2.1 hP hcl he), zPc.at_ C (hsub.1 D cl H hP) (hsub.2.1 A hD) hS⟩ rfl hn9 hl.1 rfl (lv_room hst) hdg hf
  intro T hT X
  rcases hr T hT X with ⟨v, st₀, t, T', L, h0, X', hL, e1, e2, hq, hst9⟩ | ⟨q, st₀, t, T', L, E9, ce, h0, X', hL, e1, e2, ⟨u, hp, ⟨hE, hP1, hK1, hD1⟩, hFr⟩, hce, hcv, hcl9, hst9⟩
  · exact hq.elim
  · subst hE
    obtain ⟨k1, k2, k3⟩ := vx_keep h0 e1 hS (fun q _ h => hF q h) (fun q h => hF q h) hL hFr
    rw [← e1] at hP1
    obtain ⟨g1, g2⟩ := hsub.2.2 D cl A H T'.heap hP hD hF k2 hP1 hD1
    obtain ⟨t2, a1, b1⟩ := kk T'.heap (locs ++ L) ls q ce g1 g2 k3 hl (by rw [e1]; exact hce) hcv hcl9 T' rfl X'
    exact ⟨t2, hst9.trans a1, b1⟩

theorem z_callSx (C : zK sa D cl tys A p s m args meth c cc nL own Ts ret) {y : MethodName} {wsy : List Cond} {rm : Room} {bytes : ByteArray} {maxL mc ms n index : Nat} {ret9 : Option FieldType} {As : List Value} {wc : va_W} {E : String} (hM : zX sa D cl tys l y wsy rm As wc E mc ms) (cw : CallB R s args own index y bytes maxL ret9 wsy rm mc ms n ∧ (Cond.static y).before args s = true) (hsub : zSub ws wc wc ws) (hn9 : As.length = n) (hst : (rest.map fun v => v.category).sum ≤ 8) (hf : cells + mc ≤ R.cells ∧ slots + ms ≤ R.slots) (hdg : decode cc pc = .ok (.invokestatic index, 3))
    (kk : zT p l e R s m args below meth c (Q) D cl A nL (cells + mc) (slots + ms) ws lv pc rest E) : zW p l e R s m args below meth c (Q) D cl A nL cells slots ws lv pc (As.reverse ++ rest) := by
  intro H locs ls hP hD hS hl
  have hF : ∀ q : Nat, va_A wc H.size q → A q := zPc.free C (hsub.2.1 A hD) hS
  have hr := vx_runS (l := l) (e := e) (below := below) (meth := meth) (H := H) (locs := locs) (cells := cells) (slots := slots) (g := F0 m pc ls (As.reverse ++ rest)) (As := As) (rest := rest) ⟨C.1, C.2.1, C.2.2.1, C.2.2.2.1, C.2.2.2.2.1⟩ (hM H.size) cw ⟨zPc.blind, zPc.at_ C (hsub.1 D cl H hP) (hsub.2.1 A hD) hS⟩ rfl hn9 hl.1 rfl (lv_room hst) hdg hf
  intro T hT X
  rcases hr T hT X with ⟨v, st₀, t, T', L, h0, X', hL, e1, e2, hq, hst9⟩ | ⟨q, st₀, t, T', L, E9, ce, h0, X', hL, e1, e2, ⟨u, hp, ⟨hE, hP1, hK1, hD1⟩, hFr⟩, hce, hcv, hcl9, hst9⟩
  · exact hq.elim
  · subst hE
    obtain ⟨k1, k2, k3⟩ := vx_keep h0 e1 hS (fun q _ h => hF q h) (fun q h => hF q h) hL hFr
    rw [← e1] at hP1
    obtain ⟨g1, g2⟩ := hsub.2.2 D cl A H T'.heap hP hD hF k2 hP1 hD1
    obtain ⟨t2, a1, b1⟩ := kk T'.heap (locs ++ L) ls q ce g1 g2 k3 hl (by rw [e1]; exact hce) hcv hcl9 T' rfl X'
    exact ⟨t2, hst9.trans a1, b1⟩

/-- caught by the row x of this method's table -/
theorem z_catch {E name : String} (C : zK sa D cl tys A p s m args meth c cc nL own Ts ret) (pre : List ExceptionTableEntry) (x : ExceptionTableEntry) (suf : List ExceptionTableEntry) (hsplit : c.exceptionTable.toList = pre ++ x :: suf)
    (hpass : ∀ z ∈ pre, z.catchType ≠ 0 ∧ ∃ nm : String, Cond.classLink own z.catchType nm ∈ Ts ∧ (E, nm) ∈ zNcs) (hx : covers x pc = true) (h0 : x.catchType ≠ 0) (hlink : Cond.classLink own x.catchType name ∈ Ts) (hE : E ∈ zEs) (hname : name = E)
    (kk : ∀ q : Nat, zW p l e R s m args below meth c (Q) D cl A nL cells slots ws lv x.handlerPc [.ref q]) : zT p l e R s m args below meth c (Q) D cl A nL cells slots ws lv pc st E := by
  subst hname
  intro H locs ls q ce hP hD hS hl hq hv hcl
  have hG := C.2.2.2.2.2.2.2.1
  refine vx_catch C.2.2.2.1 pre x suf hsplit (fun z hz => ?_) hx h0 (C.2.2.2.2.1 _ hlink) (va_Nw.use rfl (hG.2.2.1 name hE)) hq hv hcl (kk q H locs ls hP hD hS hl)
  obtain ⟨h1, nm, h2, h3⟩ := hpass z hz
  exact Or.inr ⟨h1, nm, C.2.2.2.2.1 _ h2, hG.2.2.2.1 _ h3⟩
end ZC
end
section
/-! the worlds of the class and of the reference; rows for new cells, copies, longs -/
section ZS
abbrev zty (cI cZ cL : ClassId) : List (ClassId × FieldType) := [(cI, .int), (cZ, .boolean), (cL, .long)]
def wX (ad : Nat → Nat) (cI cZ : ClassId) (acc net tacc tnet flo bnd frm too amt pri wai byp ldr bor due plg clo pap cnd : Nat → Int32) (small price cut proc made lmade lend : Int32) : va_W :=
  [((ad 0), .inr (4, [.ref (ad 1), .ref (ad 2), .ref (ad 3), .ref (ad 4), .ref (ad 5), .ref (ad 22), .ref (ad 23), .ref (ad 24), .int small, .int price, .int cut, .int proc])),
   ((ad 1), .inr (3, [.ref (ad 6), .ref (ad 7)])),
   ((ad 2), .inr (3, [.ref (ad 8), .ref (ad 9)])),
   ((ad 3), .inr (0, [.ref (ad 10), .ref (ad 11)])),
   ((ad 4), .inr (2, [.ref (ad 12), .ref (ad 13), .ref (ad 14), .ref (ad 15), .ref (ad 16), .ref (ad 17), .int made])),
   ((ad 5), .inr (1, [.ref (ad 18), .ref (ad 19), .ref (ad 20), .ref (ad 21), .int lmade, .int lend])),
   ((ad 6), .inl (cI, 5, .inl acc)),
   ((ad 7), .inl (cI, 25, .inl net)),
   ((ad 8), .inl (cI, 5, .inl tacc)),
   ((ad 9), .inl (cI, 25, .inl tnet)),
   ((ad 10), .inl (cI, 5, .inl flo)),
   ((ad 11), .inl (cI, 25, .inl bnd)),
   ((ad 12), .inl (cI, 60, .inl frm)),
   ((ad 13), .inl (cI, 60, .inl too)),
   ((ad 14), .inl (cI, 60, .inl amt)),
   ((ad 15), .inl (cI, 60, .inl pri)),
   ((ad 16), .inl (cZ, 60, .inl wai)),
   ((ad 17), .inl (cI, 60, .inl byp)),
   ((ad 18), .inl (cI, 40, .inl ldr)),
   ((ad 19), .inl (cI, 40, .inl bor)),
   ((ad 20), .inl (cI, 40, .inl due)),
   ((ad 21), .inl (cI, 40, .inl plg)),
   ((ad 22), .inl (cZ, 5, .inl clo)),
   ((ad 23), .inl (cI, 5, .inl pap)),
   ((ad 24), .inl (cI, 10, .inl cnd))]
def wM (md : Nat → Nat) (cI cZ : ClassId) (acc flo pap clo net bnd frm too amt pri wai fst ldr bor lnt rat plg opn : Nat → Int32) (made small lmade price cut proc thr : Int32) : va_W :=
  [((md 0), .inr (5, [.ref (md 1), .ref (md 2), .ref (md 3), .ref (md 4), .ref (md 5), .ref (md 6), .int made, .ref (md 7), .ref (md 8), .ref (md 9), .ref (md 10), .ref (md 11), .int small, .ref (md 12), .int lmade, .ref (md 13), .ref (md 14), .ref (md 15), .ref (md 16), .ref (md 17), .ref (md 18), .int price, .int cut, .int proc, .int thr])),
   ((md 1), .inl (cI, 5, .inl acc)),
   ((md 2), .inl (cI, 5, .inl flo)),
   ((md 3), .inl (cI, 5, .inl pap)),
   ((md 4), .inl (cZ, 5, .inl clo)),
   ((md 5), .inl (cI, 25, .inl net)),
   ((md 6), .inl (cI, 25, .inl bnd)),
   ((md 7), .inl (cI, 60, .inl frm)),
   ((md 8), .inl (cI, 60, .inl too)),
   ((md 9), .inl (cI, 60, .inl amt)),
   ((md 10), .inl (cI, 60, .inl pri)),
   ((md 11), .inl (cZ, 60, .inl wai)),
   ((md 12), .inl (cI, 5, .inl fst)),
   ((md 13), .inl (cI, 40, .inl ldr)),
   ((md 14), .inl (cI, 40, .inl bor)),
   ((md 15), .inl (cI, 40, .inl lnt)),
   ((md 16), .inl (cI, 40, .inl rat)),
   ((md 17), .inl (cI, 40, .inl plg)),
   ((md 18), .inl (cZ, 40, .inl opn))]
theorem z_nb {x : Int32} (h : x = 0 ∨ x = 1) : narrow .boolean (.int x) = .int x := by
  rcases h with rfl | rfl <;> rfl
theorem z_dec {n : Nat} (h : 0 < n) : nI n + Int32.ofInt (-1) = nI (n - 1) := by
  obtain ⟨k, rfl⟩ : ∃ k, n = k + 1 := ⟨n - 1, by omega⟩
  exact pk_m1 k
theorem z_dvX0 : ∀ j, j < 2 → defaultValue (tyX0 j) = vp_V [.null, .null] j := by
  intro j hj
  rcases (show j = 0 ∨ j = 1 by omega) with rfl | rfl <;> rfl
theorem z_dvX1 : ∀ j, j < 6 → defaultValue (tyX1 j) = vp_V [.null, .null, .null, .null, .int 0, .int 0] j := by
  intro j hj
  rcases (show j = 0 ∨ j = 1 ∨ j = 2 ∨ j = 3 ∨ j = 4 ∨ j = 5 by omega) with rfl | rfl | rfl | rfl | rfl | rfl <;> rfl
theorem z_dvX2 : ∀ j, j < 7 → defaultValue (tyX2 j) = vp_V [.null, .null, .null, .null, .null, .null, .int 0] j := by
  intro j hj
  rcases (show j = 0 ∨ j = 1 ∨ j = 2 ∨ j = 3 ∨ j = 4 ∨ j = 5 ∨ j = 6 by omega) with rfl | rfl | rfl | rfl | rfl | rfl | rfl <;> rfl
theorem z_dvX3 : ∀ j, j < 2 → defaultValue (tyX3 j) = vp_V [.null, .null] j := by
  intro j hj
  rcases (show j = 0 ∨ j = 1 by omega) with rfl | rfl <;> rfl
theorem z_dvX4 : ∀ j, j < 12 → defaultValue (tyX4 j) = vp_V [.null, .null, .null, .null, .null, .null, .null, .null, .int 0, .int 0, .int 0, .int 0] j := by
  intro j hj
  rcases (show j = 0 ∨ j = 1 ∨ j = 2 ∨ j = 3 ∨ j = 4 ∨ j = 5 ∨ j = 6 ∨ j = 7 ∨ j = 8 ∨ j = 9 ∨ j = 10 ∨ j = 11 by omega) with rfl | rfl | rfl | rfl | rfl | rfl | rfl | rfl | rfl | rfl | rfl | rfl <;> rfl
theorem z_dvX5 : ∀ j, j < 25 → defaultValue (tyX5 j) = vp_V [.null, .null, .null, .null, .null, .null, .int 0, .null, .null, .null, .null, .null, .int 0, .null, .int 0, .null, .null, .null, .null, .null, .null, .int 0, .int 0, .int 0, .int 0] j := by
  intro j hj
  rcases (show j = 0 ∨ j = 1 ∨ j = 2 ∨ j = 3 ∨ j = 4 ∨ j = 5 ∨ j = 6 ∨ j = 7 ∨ j = 8 ∨ j = 9 ∨ j = 10 ∨ j = 11 ∨ j = 12 ∨ j = 13 ∨ j = 14 ∨ j = 15 ∨ j = 16 ∨ j = 17 ∨ j = 18 ∨ j = 19 ∨ j = 20 ∨ j = 21 ∨ j = 22 ∨ j = 23 ∨ j = 24 by omega) with rfl | rfl | rfl | rfl | rfl | rfl | rfl | rfl | rfl | rfl | rfl | rfl | rfl | rfl | rfl | rfl | rfl | rfl | rfl | rfl | rfl | rfl | rfl | rfl | rfl <;> rfl
variable {p : Program} {l : Launch} {e : Env} {R : Room} {s : State} {m : MethodId} {args : Array Value} {below : List Frame} {meth : Method} {c : Code} {Q : State → Prop} {D : va_G} {cl : List vw_C} {A : Nat → Prop} {tys : List (ClassId × FieldType)} {cc : ByteArray} {nL : Nat} {own : String} {Ts : List Cond} {sa : Nat → Nat} {ret : Option FieldType}
variable {cells slots : Nat} {ws ws' : va_W} {lv lv' : List (Nat × Value)} {pc : Nat} {st rest : List Value}
theorem z_objInit (C : zK sa D cl tys A p s m args meth c cc nL own Ts ret) {idx : Nat} {a : Nat} (h1 : Cond.methodLink own idx objectInit ∈ Ts) (h2 : Cond.instanceMethod objectInit ∈ Ts) (h3 : Cond.code objectInit ⟨#[0xb1]⟩ 1 none ∈ Ts) (hR : 1 ≤ R.frames ∧ (st.map fun v => v.category).sum + 12 ≤ R.locals) (hdg : decode cc pc = .ok (.invokespecial idx, 3)) (kk : zW p l e R s m args below meth c Q D cl A nL cells slots ws lv (pc + 3) st) : zW p l e R s m args below meth c Q D cl A nL cells slots ws lv pc (.ref a :: st) :=
  fun H locs ls hP hD hS hl => W.objInit C.1 C.2.1 C.2.2.2.1 (C.2.2.2.2.1 _ h1) (C.2.2.2.2.1 _ h2) (C.2.2.2.2.1 _ h3) rfl (by rw [C.2.2.1]; exact hl.1) rfl hdg hR.1 (by show 2 * 0 + _ + 12 ≤ _; have := hR.2; omega) (kk H locs ls hP hD hS hl)
theorem z_new (C : zK sa D cl tys A p s m args meth c cc nL own Ts ret) {C9 : String} {T : u_T} {N ci index : Nat} {fs : List Value} (hin : ∀ w ∈ u_ws C9 T N, w ∈ Ts) (ty : Nat → FieldType) (hty : ∀ k, k < N → parseFieldDescriptor (T k).2.2.1 = some (ty k)) (hcl : Cond.classLink own index C9 ∈ Ts) (hinst : Cond.instantiable C9 N ∈ Ts) (hini : Cond.initialized C9 ∈ Ts) (hc : cl[ci]? = some (C9, T, N)) (hfs : ∀ j, j < N → defaultValue (ty j) = vp_V fs j) (hR : cells + 1 ≤ R.cells ∧ slots + N ≤ R.slots) (hdg : decode cc pc = .ok (.new index, 3))
    (kk : ∀ q : Nat, zW p l e R s m args below meth c Q D cl A nL (cells + 1) (slots + N) (ws ++ [(q, .inr (ci, fs))]) lv (pc + 3) (.ref q :: st)) : zW p l e R s m args below meth c Q D cl A nL cells slots ws lv pc st :=
  fun H locs ls hP hD hS hl => va_new C.1 C.2.1 C.2.2.2.2.1 hin ty hty C.2.2.2.1 (C.2.2.2.2.1 _ hcl) (C.2.2.2.2.1 _ hinst) (C.2.2.2.2.1 _ hini) C.2.2.2.2.2.1 hP hD hS C.2.2.2.2.2.2.1 hc hfs hR.1 hR.2 hdg (fun q H1 hP1 hD1 hS1 => kk q H1 locs ls hP1 hD1 hS1 hl)
theorem z_ncls {U : State} {c1 c2 : ClassId} {ty : FieldType} (h1 : va_RA U c1 ty) (h2 : va_RA U c2 ty) (hp : refKind ty = false) : c1 = c2 := by
  cases ty with
  | object C => cases hp
  | _ => exact Option.some.inj (h1.symm.trans h2)
theorem z_newaI (C : zK sa D cl tys A p s m args meth c cc nL own Ts ret) {cA : ClassId} (harr : Cond.arrayClass .int ∈ Ts) (t0 : Nat) (ht : tys[t0]? = some (cA, .int)) {n : Int32} {N : Nat} (hn : ¬ n < 0) (hN : n.toNatClampNeg = N) (hb9 : N ≤ 1000) (hR : cells + 1 ≤ R.cells ∧ slots + N ≤ R.slots) (hdg : decode cc pc = .ok (.newarray .int, 2))
    (kk : ∀ q : Nat, zW p l e R s m args below meth c Q D cl A nL (cells + 1) (slots + N) (ws ++ [(q, .inl (cA, N, .inl (fun _ => 0)))]) lv (pc + 2) (.ref q :: st)) : zW p l e R s m args below meth c Q D cl A nL cells slots ws lv pc (.int n :: st) := by
  intro H locs ls hP hD hS hl
  have hb8 : N * componentBytes FieldType.int ≤ 536870912 := Nat.le_trans (Nat.mul_le_mul hb9 (show componentBytes FieldType.int ≤ 8 by decide)) (by decide)
  refine va_newa (atype := .int) (ty := .int) (a0 := (N, .inl (fun _ => 0))) C.1 C.2.1 (C.2.2.2.2.1 _ harr) rfl C.2.2.2.2.2.1 hP hD hS C.2.2.2.2.2.2.1 (fun cA => rfl) hn hN hb8 hR.1 hR.2 hdg (fun q c9 H1 hK1 hP1 hD1 hS1 => ?_)
  have e9 : c9 = cA := by
    have g1 := (hK1.2 tys.length (c9, .int) (by simp)).2
    have g2 := (C.2.2.2.2.2.1.2 t0 (cA, .int) ht).2
    exact z_ncls g1 g2 rfl
  subst e9
  exact kk q H1 locs ls hP1 hD1 hS1 hl
theorem z_newaZ (C : zK sa D cl tys A p s m args meth c cc nL own Ts ret) {cA : ClassId} (harr : Cond.arrayClass .boolean ∈ Ts) (t0 : Nat) (ht : tys[t0]? = some (cA, .boolean)) {n : Int32} {N : Nat} (hn : ¬ n < 0) (hN : n.toNatClampNeg = N) (hb9 : N ≤ 1000) (hR : cells + 1 ≤ R.cells ∧ slots + N ≤ R.slots) (hdg : decode cc pc = .ok (.newarray .boolean, 2))
    (kk : ∀ q : Nat, zW p l e R s m args below meth c Q D cl A nL (cells + 1) (slots + N) (ws ++ [(q, .inl (cA, N, .inl (fun _ => 0)))]) lv (pc + 2) (.ref q :: st)) : zW p l e R s m args below meth c Q D cl A nL cells slots ws lv pc (.int n :: st) := by
  intro H locs ls hP hD hS hl
  have hb8 : N * componentBytes FieldType.boolean ≤ 536870912 := Nat.le_trans (Nat.mul_le_mul hb9 (show componentBytes FieldType.boolean ≤ 8 by decide)) (by decide)
  refine va_newa (atype := .boolean) (ty := .boolean) (a0 := (N, .inl (fun _ => 0))) C.1 C.2.1 (C.2.2.2.2.1 _ harr) rfl C.2.2.2.2.2.1 hP hD hS C.2.2.2.2.2.2.1 (fun cA => rfl) hn hN hb8 hR.1 hR.2 hdg (fun q c9 H1 hK1 hP1 hD1 hS1 => ?_)
  have e9 : c9 = cA := by
    have g1 := (hK1.2 tys.length (c9, .boolean) (by simp)).2
    have g2 := (C.2.2.2.2.2.1.2 t0 (cA, .boolean) ht).2
    exact z_ncls g1 g2 rfl
  subst e9
  exact kk q H1 locs ls hP1 hD1 hS1 hl
theorem z_newaL (C : zK sa D cl tys A p s m args meth c cc nL own Ts ret) {cA : ClassId} (harr : Cond.arrayClass .long ∈ Ts) (t0 : Nat) (ht : tys[t0]? = some (cA, .long)) {n : Int32} {N : Nat} (hn : ¬ n < 0) (hN : n.toNatClampNeg = N) (hb9 : N ≤ 1000) (hR : cells + 1 ≤ R.cells ∧ slots + N ≤ R.slots) (hdg : decode cc pc = .ok (.newarray .long, 2))
    (kk : ∀ q : Nat, zW p l e R s m args below meth c Q D cl A nL (cells + 1) (slots + N) (ws ++ [(q, .inl (cA, N, .inr (.inl (fun _ => 0))))]) lv (pc + 2) (.ref q :: st)) : zW p l e R s m args below meth c Q D cl A nL cells slots ws lv pc (.int n :: st) := by
  intro H locs ls hP hD hS hl
  have hb8 : N * componentBytes FieldType.long ≤ 536870912 := Nat.le_trans (Nat.mul_le_mul hb9 (show componentBytes FieldType.long ≤ 8 by decide)) (by decide)
  refine va_newa (atype := .long) (ty := .long) (a0 := (N, .inr (.inl (fun _ => 0)))) C.1 C.2.1 (C.2.2.2.2.1 _ harr) rfl C.2.2.2.2.2.1 hP hD hS C.2.2.2.2.2.2.1 (fun cA => rfl) hn hN hb8 hR.1 hR.2 hdg (fun q c9 H1 hK1 hP1 hD1 hS1 => ?_)
  have e9 : c9 = cA := by
    have g1 := (hK1.2 tys.length (c9, .long) (by simp)).2
    have g2 := (C.2.2.2.2.2.1.2 t0 (cA, .long) ht).2
    exact z_ncls g1 g2 rfl
  subst e9
  exact kk q H1 locs ls hP1 hD1 hS1 hl
theorem z_copy (C : zK sa D cl tys A p s m args meth c cc nL own Ts ret) {index : Nat} (h1 : Cond.methodLink own index arraycopyName ∈ Ts) (h2 : Cond.native arraycopyName ∈ Ts) (h3 : Cond.static arraycopyName ∈ Ts) (h4 : Cond.initialized "java/lang/System" ∈ Ts) (q0 q1 : Nat) {a a0 : Nat} {c0 : ClassId} {n0 n1 : Nat} {f g : Nat → Int32} (ha0 : ws[q0]? = some (a0, .inl (c0, n0, .inl f))) (ha1 : ws[q1]? = some (a, .inl (c0, n1, .inl g))) (ht0 : tys[0]? = some (c0, .int))
    {sp dp n : Int32} (hs1 : ¬ sp < 0) (hs2 : ¬ dp < 0) (hs3 : ¬ n < 0) {sp' dp' n' : Nat} (e1 : sp.toNatClampNeg = sp') (e2 : dp.toNatClampNeg = dp') (e3 : n.toNatClampNeg = n') (h5 : sp' + n' ≤ n0) (h6 : dp' + n' ≤ n1) (hR : 1 ≤ R.frames ∧ (st.map fun v => v.category).sum + (nativeFrameWords "java/lang/System" "arraycopy" 5 + 11) ≤ R.locals) (hdg : decode cc pc = .ok (.invokestatic index, 3)) (ws' : va_W) (hw : ws.set q1 (a, .inl (c0, n1, .inl (va_cpy f g sp' dp' n'))) = ws')
    (kk : zW p l e R s m args below meth c Q D cl A nL cells slots ws' lv (pc + 3) st) : zW p l e R s m args below meth c Q D cl A nL cells slots ws lv pc (.int n :: .int dp :: .ref a :: .int sp :: .ref a0 :: st) := by
  subst e1; subst e2; subst e3; subst hw
  exact fun H locs ls hP hD hS hl => va_copyi C.1 C.2.1 (by rw [C.2.2.1]; exact hl.1.symm) C.2.2.2.1 (C.2.2.2.2.1 _ h1) (C.2.2.2.2.1 _ h2) (C.2.2.2.2.1 _ h3) (C.2.2.2.2.1 _ h4) C.2.2.2.2.2.1 hP hD hS q0 q1 0 0 ha0 ha1 ht0 ht0 rfl hs1 hs2 hs3 h5 h6 (fun _ _ => rfl) hR.1 hR.2 hdg (fun H1 locs1 hP1 hD1 hS1 => kk H1 locs1 ls hP1 hD1 hS1 hl)
theorem z_cmp_eq {x y : Int64} : lg_cmp x y = 0 ↔ x = y := by
  unfold lg_cmp
  constructor
  · intro h
    by_cases h1 : y < x
    · rw [if_pos h1] at h; exact absurd h (by decide)
    · rw [if_neg h1] at h
      by_cases h2 : x < y
      · simp [h2] at h
        have h9 : x ≠ y := fun e => Int64.lt_irrefl (e ▸ h2)
        simp [h9] at h
      · exact Int64.le_antisymm (Int64.not_lt.mp h1) (Int64.not_lt.mp h2)
  · intro h
    subst h
    simp
theorem z_cmp_lt {x y : Int64} : lg_cmp x y < 0 ↔ x < y := by
  unfold lg_cmp
  constructor
  · intro h
    by_cases h1 : y < x
    · rw [if_pos h1] at h; exact absurd h (by decide)
    · rw [if_neg h1] at h
      by_cases h2 : x = y
      · rw [if_pos h2] at h; exact absurd h (by decide)
      · rcases Int64.lt_or_le x y with q | q
        · exact q
        · exact absurd (Int64.le_antisymm (Int64.not_lt.mp h1) q) h2
  · intro h
    have h1 : ¬ y < x := Int64.lt_asymm h
    have h2 : ¬ x = y := fun e => Int64.lt_irrefl (e ▸ h)
    rw [if_neg h1, if_neg h2]; decide
theorem z_lcmp_eq (C : zK sa D cl tys A p s m args meth c cc nL own Ts ret) {x y : Int64} {off : Int} {tgt : Nat} (hdg : decode cc pc = .ok (.lcmp, 1)) (hdg2 : decode cc (pc + 1) = .ok (.ifCond .eq off, 3)) (ht : ((pc + 1 : Nat) : Int) + off = (tgt : Int)) (kt : x = y → zW p l e R s m args below meth c Q D cl A nL cells slots ws lv tgt st) (kf : ¬ x = y → zW p l e R s m args below meth c Q D cl A nL cells slots ws lv (pc + 1 + 3) st) : zW p l e R s m args below meth c Q D cl A nL cells slots ws lv pc (.long y :: .long x :: st) :=
  fun H locs ls hP hD hS hl => W.lcmp C.1 C.2.1 hdg (lv_if_eq C.1 C.2.1 hdg2 ht (fun q => kt (z_cmp_eq.mp q) H locs ls hP hD hS hl) (fun q => kf (fun r => q (z_cmp_eq.mpr r)) H locs ls hP hD hS hl))
theorem z_lcmp_ne (C : zK sa D cl tys A p s m args meth c cc nL own Ts ret) {x y : Int64} {off : Int} {tgt : Nat} (hdg : decode cc pc = .ok (.lcmp, 1)) (hdg2 : decode cc (pc + 1) = .ok (.ifCond .ne off, 3)) (ht : ((pc + 1 : Nat) : Int) + off = (tgt : Int)) (kt : ¬ x = y → zW p l e R s m args below meth c Q D cl A nL cells slots ws lv tgt st) (kf : x = y → zW p l e R s m args below meth c Q D cl A nL cells slots ws lv (pc + 1 + 3) st) : zW p l e R s m args below meth c Q D cl A nL cells slots ws lv pc (.long y :: .long x :: st) :=
  fun H locs ls hP hD hS hl => W.lcmp C.1 C.2.1 hdg (lv_if_ne C.1 C.2.1 hdg2 ht (fun q => kt (fun r => q (z_cmp_eq.mpr r)) H locs ls hP hD hS hl) (fun q => kf (z_cmp_eq.mp q) H locs ls hP hD hS hl))
theorem z_lcmp_lt (C : zK sa D cl tys A p s m args meth c cc nL own Ts ret) {x y : Int64} {off : Int} {tgt : Nat} (hdg : decode cc pc = .ok (.lcmp, 1)) (hdg2 : decode cc (pc + 1) = .ok (.ifCond .lt off, 3)) (ht : ((pc + 1 : Nat) : Int) + off = (tgt : Int)) (kt : x < y → zW p l e R s m args below meth c Q D cl A nL cells slots ws lv tgt st) (kf : ¬ x < y → zW p l e R s m args below meth c Q D cl A nL cells slots ws lv (pc + 1 + 3) st) : zW p l e R s m args below meth c Q D cl A nL cells slots ws lv pc (.long y :: .long x :: st) :=
  fun H locs ls hP hD hS hl => W.lcmp C.1 C.2.1 hdg (lv_if_lt C.1 C.2.1 hdg2 ht (fun q => kt (z_cmp_lt.mp q) H locs ls hP hD hS hl) (fun q => kf (fun r => q (z_cmp_lt.mpr r)) H locs ls hP hD hS hl))
theorem z_lcmp_ge (C : zK sa D cl tys A p s m args meth c cc nL own Ts ret) {x y : Int64} {off : Int} {tgt : Nat} (hdg : decode cc pc = .ok (.lcmp, 1)) (hdg2 : decode cc (pc + 1) = .ok (.ifCond .ge off, 3)) (ht : ((pc + 1 : Nat) : Int) + off = (tgt : Int)) (kt : ¬ x < y → zW p l e R s m args below meth c Q D cl A nL cells slots ws lv tgt st) (kf : x < y → zW p l e R s m args below meth c Q D cl A nL cells slots ws lv (pc + 1 + 3) st) : zW p l e R s m args below meth c Q D cl A nL cells slots ws lv pc (.long y :: .long x :: st) :=
  fun H locs ls hP hD hS hl => W.lcmp C.1 C.2.1 hdg (lv_if_ge C.1 C.2.1 hdg2 ht (fun q => kt (fun r => absurd (z_cmp_lt.mpr r) (Int32.not_lt.mpr q)) H locs ls hP hD hS hl) (fun q => kf (z_cmp_lt.mp (Int32.not_le.mp q)) H locs ls hP hD hS hl))
theorem z_ws (ws' : va_W) (h : ws = ws') (kk : zW p l e R s m args below meth c Q D cl A nL cells slots ws' lv pc st) : zW p l e R s m args below meth c Q D cl A nL cells slots ws lv pc st := h ▸ kk
theorem z_lveq (lv' : List (Nat × Value)) (h : lv = lv') (kk : zW p l e R s m args below meth c Q D cl A nL cells slots ws lv' pc st) : zW p l e R s m args below meth c Q D cl A nL cells slots ws lv pc st := h ▸ kk
theorem z_iushr (C : zK sa D cl tys A p s m args meth c cc nL own Ts ret) {x y v : Int32} (hdg : decode cc pc = .ok (.iushr, 1)) (hv : (x.toUInt32 >>> (y.toUInt32 &&& Int32.toUInt32 31)).toInt32 = v) (kk : zW p l e R s m args below meth c Q D cl A nL cells slots ws lv (pc + 1) (.int v :: st)) : zW p l e R s m args below meth c Q D cl A nL cells slots ws lv pc (.int y :: .int x :: st) :=
  fun H locs ls hP hD hS hl => lv_iushr C.1 C.2.1 hdg hv (kk H locs ls hP hD hS hl)
theorem z_ldcw (C : zK sa D cl tys A p s m args meth c cc nL own Ts ret) {index : Nat} {v : Int32} (hm : Cond.constant own index v ∈ Ts) (hdg : decode cc pc = .ok (.ldc_w index, 3)) (kk : zW p l e R s m args below meth c Q D cl A nL cells slots ws lv (pc + 3) (.int v :: st)) : zW p l e R s m args below meth c Q D cl A nL cells slots ws lv pc st :=
  fun H locs ls hP hD hS hl => lv_ldcw C.1 C.2.1 C.2.2.2.1 (C.2.2.2.2.1 _ hm) hdg (kk H locs ls hP hD hS hl)
end ZS
end
section
/-! what both sides compute: rows of numbers, queues, sets -/
section SP
def ix (x : Int32) : Nat := x.toNatClampNeg
theorem ix_nI {n : Nat} (h : n < 2 ^ 31) : ix (nI n) = n := nI_clamp h
def wf5 (n : Nat) (f : Nat → Int32) : Prop := ∀ p, p < n → f p = nI (ix (f p)) ∧ ix (f p) < 5
def wfB (f : Nat → Int32) : Prop := ∀ p, f p = 0 ∨ f p = 1
theorem z_mulc (c y : Nat) : nI c * nI y = nI (y * c) := by rw [Nat.mul_comm]; exact pk_mul c y
/-- x leaves f for t -/
def mvA (f t : Nat) (x : Int32) (g : Nat → Int32) : Nat → Int32 := upd (upd g f (g f - x)) t (upd g f (g f - x) t + x)
def mvN (f t : Nat) (x : Int32) (g : Nat → Int32) : Nat → Int32 := upd (upd g (f * 5 + t) (g (f * 5 + t) + x)) (t * 5 + f) (upd g (f * 5 + t) (g (f * 5 + t) + x) (t * 5 + f) - x)
def cntW (wai : Nat → Int32) : Nat → Nat
  | 0 => 0
  | n + 1 => cntW wai n + if wai n = 0 then 0 else 1
theorem cntW_le (wai : Nat → Int32) : ∀ n, cntW wai n ≤ n
  | 0 => Nat.le_refl 0
  | n + 1 => by have := cntW_le wai n; unfold cntW; split <;> omega
/-- why a payment doesn't go -/
def obs (acc net flo bnd frm too amt wai : Nat → Int32) (p : Nat) : Int32 := if wai p = 0 then 3 else if flo (ix (frm p)) ≤ acc (ix (frm p)) - amt p then (if net (ix (frm p) * 5 + ix (too p)) + amt p ≤ bnd (ix (frm p) * 5 + ix (too p)) then 0 else 2) else 1
def ordL (pri : Nat → Int32) (n : Nat) : List Nat := (List.range n).filter (fun p => decide (pri p = 2)) ++ ((List.range n).filter (fun p => decide (pri p = 1)) ++ (List.range n).filter (fun p => decide (pri p = 0)))
def isq (wai frm : Nat → Int32) (b : Nat) (p : Nat) : Bool := decide (wai p ≠ 0 ∧ ix (frm p) = b)
def oI : Option Nat → Int32
  | none => -1
  | some p => nI p
def atQ (L : List Nat) (f : Nat → Bool) (k : Nat) : Option Nat := (L.filter f)[k]?
def bypOK (byp pri : Nat → Int32) (n : Nat) : Prop := ∀ i, i < n → ∃ p, (ordL pri n)[i]? = some p ∧ byp i = nI p
def snd5 (acc flo net bnd : Nat → Int32) : Prop := (∀ b, b < 5 → flo b ≤ acc b) ∧ ∀ q, q < 25 → net q ≤ bnd q
def clrN (net : Nat → Int32) (i : Nat) : Nat → Int32 := fun k => if k < i then 0 else net k
theorem clrN_0 (net : Nat → Int32) : clrN net 0 = net := by funext k; simp [clrN]
theorem clrN_s (net : Nat → Int32) (i : Nat) : upd (clrN net i) i 0 = clrN net (i + 1) := by
  funext k
  unfold upd clrN
  by_cases h : k = i
  · subst h; simp
  · simp only [h, if_false]
    by_cases h2 : k < i
    · rw [if_pos h2, if_pos (by omega)]
    · rw [if_neg h2, if_neg (by omega)]
def dropW (frm too : Nat → Int32) (b i : Nat) (wai : Nat → Int32) : Nat → Int32 := fun p => if p < i ∧ (ix (frm p) = b ∨ ix (too p) = b) then 0 else wai p
theorem dropW_0 (frm too wai : Nat → Int32) (b : Nat) : dropW frm too b 0 wai = wai := by funext k; simp [dropW]
theorem dropW_y {frm too wai : Nat → Int32} {b i : Nat} (h : ix (frm i) = b ∨ ix (too i) = b) : upd (dropW frm too b i wai) i 0 = dropW frm too b (i + 1) wai := by
  funext k
  unfold upd dropW
  by_cases e : k = i
  · subst e; simp [h]
  · simp only [e, if_false]
    by_cases h2 : k < i
    · simp [h2, show k < i + 1 by omega]
    · simp [h2, show ¬ k < i + 1 by omega]
theorem dropW_n {frm too wai : Nat → Int32} {b i : Nat} (h : ¬ ix (frm i) = b) (h2 : ¬ ix (too i) = b) : dropW frm too b i wai = dropW frm too b (i + 1) wai := by
  funext k
  unfold dropW
  by_cases e : k = i
  · subst e; simp [h, h2]
  · by_cases h3 : k < i
    · simp [h3, show k < i + 1 by omega]
    · simp [h3, show ¬ k < i + 1 by omega]
theorem filt_le (q : Nat → Nat → Bool) (hd : ∀ p a b, q a p = true → q b p = true → a = b) : ∀ n, ((List.range n).filter (q 2)).length + (((List.range n).filter (q 1)).length + ((List.range n).filter (q 0)).length) ≤ n
  | 0 => by simp
  | n + 1 => by
    have ih := filt_le q hd n
    simp only [List.range_succ, List.filter_append, List.length_append]
    have h1 := hd n 2 1
    have h2 := hd n 2 0
    have h3 := hd n 1 0
    cases e2 : q 2 n <;> cases e1 : q 1 n <;> cases e0 : q 0 n <;> simp_all <;> omega
theorem ordL_len (pri : Nat → Int32) (n : Nat) : (ordL pri n).length ≤ n := by
  have h := filt_le (fun a p => decide (pri p = nI a) && decide (a < 3)) (by
    intro p a b h1 h2
    simp only [Bool.and_eq_true, decide_eq_true_eq] at h1 h2
    exact (nI_eq (by omega) (by omega)).mp (h1.1.symm.trans h2.1)) n
  unfold ordL
  simp only [List.length_append]
  simp at h
  exact h
theorem ordL_mem {pri : Nat → Int32} {n p : Nat} (h : p ∈ ordL pri n) : p < n := by
  unfold ordL at h
  simp only [List.mem_append, List.mem_filter, List.mem_range] at h
  omega
theorem atQ_found {L : List Nat} {f : Nat → Bool} {i k p : Nat} (hi : L[i]? = some p) (hf : f p = true) (ha : k = ((L.take i).filter f).length) : atQ L f k = some p := by
  obtain ⟨hl, hp⟩ := List.getElem?_eq_some_iff.mp hi
  have e : L = L.take i ++ p :: L.drop (i + 1) := by
    rw [← hp, List.getElem_cons_drop, List.take_append_drop]
  unfold atQ
  have e2 : L.filter f = (L.take i).filter f ++ p :: (L.drop (i + 1)).filter f := by
    conv => lhs; rw [e]
    rw [List.filter_append, List.filter_cons, if_pos hf]
  rw [e2, ha, List.getElem?_append_right (Nat.le_refl _)]
  simp
theorem atQ_yes {L : List Nat} {f : Nat → Bool} {i p : Nat} (hi : L[i]? = some p) (hf : f p = true) : ((L.take (i + 1)).filter f).length = ((L.take i).filter f).length + 1 := by
  rw [List.take_succ, hi, List.filter_append]
  simp [hf]
theorem atQ_no {L : List Nat} {f : Nat → Bool} {i p : Nat} (hi : L[i]? = some p) (hf : ¬ f p = true) : ((L.take (i + 1)).filter f).length = ((L.take i).filter f).length := by
  rw [List.take_succ, hi, List.filter_append]
  simp [hf]
theorem atQ_end {L : List Nat} {f : Nat → Bool} {i k : Nat} (hi : L.length ≤ i) (ha : ((L.take i).filter f).length ≤ k) : atQ L f k = none := by
  rw [List.take_of_length_le hi] at ha
  unfold atQ
  exact List.getElem?_eq_none ha
theorem atQ_mem {L : List Nat} {f : Nat → Bool} {k p : Nat} (h : atQ L f k = some p) : p ∈ L ∧ f p = true := List.mem_filter.mp (List.mem_of_getElem? h)
theorem nI_m1 {n : Nat} (h : n < 2147483648) : ¬ nI n = -1 := by
  intro e
  have h1 := nI_toInt (n := n) h
  rw [e] at h1
  have h2 : (-1 : Int32).toInt = -1 := by decide
  omega
/-- small payments of a bank that can go -/
def fsm (acc net flo bnd frm too amt wai : Nat → Int32) (small : Int32) (b : Nat) (q : Nat) : Bool := isq wai frm b q && (decide (¬ small < amt q) && decide (obs acc net flo bnd frm too amt wai q = 0))
def nxtQ (L : List Nat) (acc net flo bnd frm too amt wai : Nat → Int32) (small : Int32) (b : Nat) : Option Nat :=
  match atQ L (isq wai frm b) 0 with
  | none => none
  | some p => if obs acc net flo bnd frm too amt wai p = 0 then some p else L.find? (fsm acc net flo bnd frm too amt wai small b)
theorem fd_found {L : List Nat} {f : Nat → Bool} {i p : Nat} (hi : L[i]? = some p) (hf : f p = true) (ha : (L.take i).find? f = none) : L.find? f = some p := by
  obtain ⟨hl, hp⟩ := List.getElem?_eq_some_iff.mp hi
  have e : L = L.take i ++ p :: L.drop (i + 1) := by
    rw [← hp, List.getElem_cons_drop, List.take_append_drop]
  rw [e, List.find?_append, ha]
  simp [hf]
theorem fd_no {L : List Nat} {f : Nat → Bool} {i p : Nat} (hi : L[i]? = some p) (hf : ¬ f p = true) (ha : (L.take i).find? f = none) : (L.take (i + 1)).find? f = none := by
  rw [List.take_succ, hi, List.find?_append, ha]
  simp [hf]
theorem fd_end {L : List Nat} {f : Nat → Bool} {i : Nat} (hi : L.length ≤ i) (ha : (L.take i).find? f = none) : L.find? f = none := by
  rw [List.take_of_length_le hi] at ha
  exact ha
theorem fd_mem {L : List Nat} {f : Nat → Bool} {p : Nat} (h : L.find? f = some p) : p ∈ L ∧ f p = true := ⟨List.mem_of_find?_eq_some h, List.find?_some h⟩
theorem fsm_isq {acc net flo bnd frm too amt wai : Nat → Int32} {small : Int32} {b q : Nat} (h : fsm acc net flo bnd frm too amt wai small b q = true) : isq wai frm b q = true := by
  unfold fsm at h
  simp only [Bool.and_eq_true] at h
  exact h.1
theorem nxtQ_mem {pri acc net flo bnd frm too amt wai : Nat → Int32} {small : Int32} {n b p : Nat} (h : nxtQ (ordL pri n) acc net flo bnd frm too amt wai small b = some p) : p < n ∧ isq wai frm b p = true := by
  unfold nxtQ at h
  cases e : atQ (ordL pri n) (isq wai frm b) 0 with
  | none => rw [e] at h; cases h
  | some q =>
    rw [e] at h
    dsimp only at h
    split at h
    · cases h
      exact ⟨ordL_mem (atQ_mem e).1, (atQ_mem e).2⟩
    · exact ⟨ordL_mem (fd_mem h).1, fsm_isq (fd_mem h).2⟩
/-- a going through the banks: accounts, paid, waiting, how many went -/
abbrev T4 : Type := (Nat → Int32) × (Nat → Int32) × (Nat → Int32) × Nat
def passF (L : List Nat) (flo bnd frm too amt : Nat → Int32) (small : Int32) (acc net wai : Nat → Int32) : Nat → T4
  | 0 => (acc, net, wai, 0)
  | b + 1 => match nxtQ L (passF L flo bnd frm too amt small acc net wai b).1 (passF L flo bnd frm too amt small acc net wai b).2.1 flo bnd frm too amt (passF L flo bnd frm too amt small acc net wai b).2.2.1 small b with
    | none => passF L flo bnd frm too amt small acc net wai b
    | some p => (mvA (ix (frm p)) (ix (too p)) (amt p) (passF L flo bnd frm too amt small acc net wai b).1, mvN (ix (frm p)) (ix (too p)) (amt p) (passF L flo bnd frm too amt small acc net wai b).2.1, upd (passF L flo bnd frm too amt small acc net wai b).2.2.1 p 0, (passF L flo bnd frm too amt small acc net wai b).2.2.2 + 1)
theorem sp_and (a b : Nat) : nI a &&& nI b = nI (a &&& b) := by
  apply Int32.toBitVec_inj.1
  show BitVec.ofNat 32 a &&& BitVec.ofNat 32 b = BitVec.ofNat 32 (a &&& b)
  apply BitVec.eq_of_getLsbD_eq
  intro i hi
  simp [hi]
theorem z_shl1 {k : Nat} (hk : k < 11) : (1 : Int32) <<< (nI k &&& 31) = nI (2 ^ k) := by
  have h : ∀ k, k < 11 → (1 : Int32) <<< (nI k &&& 31) = nI (2 ^ k) := by decide
  exact h k hk
theorem z_bit {S k : Nat} (hS : S < 1024) (hk : k < 10) : (nI S &&& nI (2 ^ k)) = 0 ↔ S.testBit k = false := by
  have h2 : (2 : Nat) ^ k ≤ 512 := Nat.le_trans (Nat.pow_le_pow_right (by decide) (show k ≤ 9 by omega)) (by decide)
  have hle : S &&& 2 ^ k ≤ 2 ^ k := Nat.and_le_right
  rw [sp_and]
  have e : nI (S &&& 2 ^ k) = 0 ↔ S &&& 2 ^ k = 0 := nI_eq (b := 0) (by omega) (by decide)
  rw [e]
  constructor
  · intro h
    have h1 : (S &&& 2 ^ k).testBit k = false := by rw [h]; simp
    rw [Nat.testBit_and] at h1
    simpa [Nat.testBit_two_pow_self] using h1
  · intro h
    apply Nat.eq_of_testBit_eq
    intro i
    rw [Nat.testBit_and, Nat.testBit_two_pow]
    by_cases hi : k = i
    · subst hi; simp [h]
    · simp [hi]
def pc5 (S : Nat) : Nat := 0 + (S.testBit 0).toNat + (S.testBit 1).toNat + (S.testBit 2).toNat + (S.testBit 3).toNat + (S.testBit 4).toNat
theorem pc5_le (S : Nat) : pc5 S ≤ 5 := by
  unfold pc5
  have h : ∀ b : Bool, b.toNat ≤ 1 := fun b => by cases b <;> decide
  have h0 := h (S.testBit 0); have h1 := h (S.testBit 1); have h2 := h (S.testBit 2); have h3 := h (S.testBit 3); have h4 := h (S.testBit 4)
  omega
def sndB (acc flo net bnd : Nat → Int32) : Bool := (List.range 5).all (fun b => decide (flo b ≤ acc b)) && (List.range 25).all (fun q => decide (net q ≤ bnd q))
theorem sndB_iff {acc flo net bnd : Nat → Int32} : sndB acc flo net bnd = true ↔ (∀ b, b < 5 → flo b ≤ acc b) ∧ ∀ q, q < 25 → net q ≤ bnd q := by
  unfold sndB
  rw [Bool.and_eq_true, List.all_eq_true, List.all_eq_true]
  simp only [List.mem_range, decide_eq_true_eq]
theorem sndB_cong {a a' n n' flo bnd : Nat → Int32} (ha : ∀ k, k < 5 → a k = a' k) (hn : ∀ k, k < 25 → n k = n' k) : sndB a flo n bnd = sndB a' flo n' bnd := by
  rw [Bool.eq_iff_iff, sndB_iff, sndB_iff]
  constructor
  · exact fun h => ⟨fun b hb => by rw [← ha b hb]; exact h.1 b hb, fun q hq => by rw [← hn q hq]; exact h.2 q hq⟩
  · exact fun h => ⟨fun b hb => by rw [ha b hb]; exact h.1 b hb, fun q hq => by rw [hn q hq]; exact h.2 q hq⟩
/-- the payments of a set go, one behind another -/
def goS (frm too amt : Nat → Int32) (cn : Nat → Option Nat) (S : Nat) (g h : Nat → Int32) : Nat → Option ((Nat → Int32) × (Nat → Int32))
  | 0 => some (g, h)
  | k + 1 => match goS frm too amt cn S g h k with
    | none => none
    | some r => if S.testBit k = true then (match cn k with
      | none => none
      | some p => some (mvA (ix (frm p)) (ix (too p)) (amt p) r.1, mvN (ix (frm p)) (ix (too p)) (amt p) r.2)) else some r
theorem upd_cong {a b : Nat → Int32} {n k : Nat} {x y : Int32} (h : ∀ j, j < n → a j = b j) (e : x = y) : ∀ j, j < n → upd a k x j = upd b k y j := by
  intro j hj
  unfold upd
  by_cases q : j = k
  · simp [q, e]
  · simp [q, h j hj]
theorem mvA_cong {a b : Nat → Int32} {f t : Nat} {x : Int32} (hf : f < 5) (ht : t < 5) (h : ∀ j, j < 5 → a j = b j) : ∀ j, j < 5 → mvA f t x a j = mvA f t x b j := by
  have h1 : ∀ j, j < 5 → upd a f (a f - x) j = upd b f (b f - x) j := upd_cong h (by rw [h f hf])
  exact upd_cong h1 (by rw [h1 t ht])
theorem mvN_cong {a b : Nat → Int32} {f t : Nat} {x : Int32} (hf : f < 5) (ht : t < 5) (h : ∀ j, j < 25 → a j = b j) : ∀ j, j < 25 → mvN f t x a j = mvN f t x b j := by
  have h1 : ∀ j, j < 25 → upd a (f * 5 + t) (a (f * 5 + t) + x) j = upd b (f * 5 + t) (b (f * 5 + t) + x) j := upd_cong h (by rw [h _ (by omega)])
  exact upd_cong h1 (by rw [h1 _ (by omega)])
theorem goS_cong {frm too amt : Nat → Int32} {cn : Nat → Option Nat} {S n : Nat} {g h g' h' : Nat → Int32} (hf : wf5 n frm) (ht : wf5 n too) (hcn : ∀ k p, cn k = some p → p < n) (hg : ∀ j, j < 5 → g j = g' j) (hh : ∀ j, j < 25 → h j = h' j) : ∀ k,
    (goS frm too amt cn S g h k = none ∧ goS frm too amt cn S g' h' k = none) ∨ ∃ r r', goS frm too amt cn S g h k = some r ∧ goS frm too amt cn S g' h' k = some r' ∧ (∀ j, j < 5 → r.1 j = r'.1 j) ∧ ∀ j, j < 25 → r.2 j = r'.2 j
  | 0 => Or.inr ⟨_, _, rfl, rfl, hg, hh⟩
  | k + 1 => by
    rcases goS_cong (amt := amt) (S := S) hf ht hcn hg hh k with ⟨e1, e2⟩ | ⟨r, r', e1, e2, h1, h2⟩
    · exact Or.inl ⟨by simp only [goS, e1], by simp only [goS, e2]⟩
    · by_cases hb : S.testBit k = true
      · cases hc : cn k with
        | none => exact Or.inl ⟨by simp only [goS, e1, hb, if_true, hc], by simp only [goS, e2, hb, if_true, hc]⟩
        | some p =>
          refine Or.inr ⟨_, _, by simp only [goS, e1, hb, if_true, hc]; rfl, by simp only [goS, e2, hb, if_true, hc]; rfl, ?_, ?_⟩
          · exact mvA_cong (hf p (hcn k p hc)).2 (ht p (hcn k p hc)).2 h1
          · exact mvN_cong (hf p (hcn k p hc)).2 (ht p (hcn k p hc)).2 h2
      · exact Or.inr ⟨r, r', by simp only [goS, e1, hb]; rfl, by simp only [goS, e2, hb]; rfl, h1, h2⟩
theorem goS_none {frm too amt : Nat → Int32} {cn : Nat → Option Nat} {S : Nat} {g h : Nat → Int32} {k : Nat} (e : goS frm too amt cn S g h k = none) : ∀ j, goS frm too amt cn S g h (k + j) = none
  | 0 => e
  | j + 1 => by
    have := goS_none e j
    show goS frm too amt cn S g h ((k + j) + 1) = none
    simp only [goS, this]
def okS (frm too amt flo bnd : Nat → Int32) (cn : Nat → Option Nat) (c : Nat) (acc net : Nat → Int32) (S : Nat) : Bool :=
  match goS frm too amt cn S acc net c with
  | none => false
  | some r => sndB r.1 flo r.2 bnd
theorem okS_e {frm too amt flo bnd acc net : Nat → Int32} {cn : Nat → Option Nat} {S c : Nat} (e : goS frm too amt cn S acc net c = none) : okS frm too amt flo bnd cn c acc net S = false := by
  unfold okS; rw [e]
abbrev cpA (acc tacc : Nat → Int32) : Nat → Int32 := va_cpy acc tacc 0 0 5
abbrev cpN (net tnet : Nat → Int32) : Nat → Int32 := va_cpy net tnet 0 0 25
theorem cpA_at {acc tacc : Nat → Int32} : ∀ j, j < 5 → cpA acc tacc j = acc j := fun j h => by rw [cpA, pk_cpy_in (Nat.zero_le j) (by omega)]; simp
theorem cpN_at {acc tacc : Nat → Int32} : ∀ j, j < 25 → cpN acc tacc j = acc j := fun j h => by rw [cpN, pk_cpy_in (Nat.zero_le j) (by omega)]; simp
theorem okS_none {frm too amt flo bnd acc net tacc tnet : Nat → Int32} {cn : Nat → Option Nat} {S n k c : Nat} (hf : wf5 n frm) (ht : wf5 n too) (hcn : ∀ k p, cn k = some p → p < n) (hk : k ≤ c) (e : goS frm too amt cn S (cpA acc tacc) (cpN net tnet) k = none) : okS frm too amt flo bnd cn c acc net S = false := by
  have e1 := goS_none e (c - k)
  rw [show k + (c - k) = c by omega] at e1
  unfold okS
  rcases goS_cong (amt := amt) (S := S) hf ht hcn (cpA_at (acc := acc) (tacc := tacc)) (cpN_at (acc := net) (tacc := tnet)) c with ⟨e2, e3⟩ | ⟨r, r', e2, e3, h1, h2⟩
  · rw [e3]
  · rw [e1] at e2; cases e2
theorem okS_some {frm too amt flo bnd acc net tacc tnet : Nat → Int32} {cn : Nat → Option Nat} {S n c : Nat} {r : (Nat → Int32) × (Nat → Int32)} (hf : wf5 n frm) (ht : wf5 n too) (hcn : ∀ k p, cn k = some p → p < n) (e : goS frm too amt cn S (cpA acc tacc) (cpN net tnet) c = some r) : okS frm too amt flo bnd cn c acc net S = sndB r.1 flo r.2 bnd := by
  unfold okS
  rcases goS_cong (amt := amt) (S := S) hf ht hcn (cpA_at (acc := acc) (tacc := tacc)) (cpN_at (acc := net) (tacc := tnet)) c with ⟨e2, e3⟩ | ⟨r1, r', e2, e3, h1, h2⟩
  · rw [e] at e2; cases e2
  · rw [e] at e2; cases e2
    rw [e3]
    exact sndB_cong (fun k hk => (h1 k hk).symm) (fun k hk => (h2 k hk).symm)
def wlL (wai : Nat → Int32) (n : Nat) : List Nat := (List.range n).filter (fun p => decide (wai p ≠ 0))
theorem wlL_len (wai : Nat → Int32) : ∀ n, (wlL wai n).length = cntW wai n
  | 0 => rfl
  | n + 1 => by
    have := wlL_len wai n
    unfold wlL at this ⊢
    rw [List.range_succ, List.filter_append, List.length_append, this, cntW]
    by_cases h : wai n = 0 <;> simp [h]
theorem wlL_y {wai : Nat → Int32} {n : Nat} (h : ¬ wai n = 0) : wlL wai (n + 1) = wlL wai n ++ [n] := by
  unfold wlL
  rw [List.range_succ, List.filter_append]
  simp [h]
theorem wlL_n {wai : Nat → Int32} {n : Nat} (h : wai n = 0) : wlL wai (n + 1) = wlL wai n := by
  unfold wlL
  rw [List.range_succ, List.filter_append]
  simp [h]
theorem wlL_pre (wai : Nat → Int32) (n : Nat) : ∀ j, ∃ r, wlL wai (n + j) = wlL wai n ++ r
  | 0 => ⟨[], by simp⟩
  | j + 1 => by
    obtain ⟨r, hr⟩ := wlL_pre wai n j
    by_cases h : wai (n + j) = 0
    · exact ⟨r, by rw [← Nat.add_assoc, wlL_n h, hr]⟩
    · exact ⟨r ++ [n + j], by rw [← Nat.add_assoc, wlL_y h, hr, List.append_assoc]⟩
theorem wlL_full {wai : Nat → Int32} {n i : Nat} (hi : i ≤ n) (h : (wlL wai n).length ≤ (wlL wai i).length) : wlL wai n = wlL wai i := by
  obtain ⟨r, hr⟩ := wlL_pre wai i (n - i)
  rw [show i + (n - i) = n by omega] at hr
  rw [hr, List.length_append] at h
  have : r = [] := List.eq_nil_of_length_eq_zero (by omega)
  rw [hr, this, List.append_nil]
theorem wlL_mem {wai : Nat → Int32} {n k p : Nat} (h : (wlL wai n)[k]? = some p) : p < n := by
  have := List.mem_of_getElem? h
  unfold wlL at this
  exact List.mem_range.mp (List.mem_filter.mp this).1
theorem cn_step {f : Nat → Int32} {L : List Nat} {p : Nat} (h : ∀ k, k < L.length → f k = oI L[k]?) : ∀ k, k < (L ++ [p]).length → upd f L.length (nI p) k = oI (L ++ [p])[k]? := by
  intro k hk
  rw [List.length_append, List.length_singleton] at hk
  unfold upd
  by_cases e : k = L.length
  · subst e; simp [oI]
  · rw [if_neg e, List.getElem?_append_left (by omega)]
    exact h k (by omega)
def filC (f : Nat → Option Nat) (c : Nat → Int32) (i : Nat) : Nat → Int32 := fun k => if k < i then oI (f k) else c k
theorem filC_0 (f : Nat → Option Nat) (c : Nat → Int32) : filC f c 0 = c := by funext k; simp [filC]
theorem filC_s {f : Nat → Option Nat} {c : Nat → Int32} {i : Nat} {x : Int32} (h : oI (f i) = x) : upd (filC f c i) i x = filC f c (i + 1) := by
  subst h
  funext k
  unfold upd filC
  by_cases e : k = i
  · subst e; simp
  · simp only [e, if_false]
    by_cases h2 : k < i
    · simp [h2, show k < i + 1 by omega]
    · simp [h2, show ¬ k < i + 1 by omega]
def fcnQ (L : List Nat) (wai frm : Nat → Int32) (b : Nat) : Option Nat := atQ L (isq wai frm b) 0
theorem fcnQ_lt {pri wai frm : Nat → Int32} {n : Nat} : ∀ k p, fcnQ (ordL pri n) wai frm k = some p → p < n := fun k p h => ordL_mem (atQ_mem h).1
def bestS (ok : Nat → Bool) : Nat → Nat
  | 0 => 0
  | s + 1 => if pc5 (bestS ok s) < pc5 s ∧ ok s = true then s else bestS ok s
theorem bestS_lt (ok : Nat → Bool) : ∀ s, bestS ok s ≤ s
  | 0 => Nat.le_refl 0
  | s + 1 => by have := bestS_lt ok s; unfold bestS; split <;> omega
theorem bestS_ok (ok : Nat → Bool) : ∀ s, bestS ok s = 0 ∨ ok (bestS ok s) = true
  | 0 => Or.inl rfl
  | s + 1 => by
    unfold bestS
    split
    · rename_i h; exact Or.inr h.2
    · exact bestS_ok ok s
theorem goS_bit {frm too amt : Nat → Int32} {cn : Nat → Option Nat} {S : Nat} {g h : Nat → Int32} {k : Nat} (hb : S.testBit k = true) (hc : cn k = none) : goS frm too amt cn S g h (k + 1) = none := by
  unfold goS
  cases e : goS frm too amt cn S g h k with
  | none => rfl
  | some r => simp only [hb, if_true, hc]
theorem best_some {frm too amt flo bnd acc net : Nat → Int32} {cn : Nat → Option Nat} {k s : Nat} (hk : k < 5) (hb : (bestS (okS frm too amt flo bnd cn 5 acc net) s).testBit k = true) : ¬ cn k = none := by
  intro hc
  rcases bestS_ok (okS frm too amt flo bnd cn 5 acc net) s with h | h
  · rw [h] at hb; simp at hb
  · have e := goS_none (goS_bit (frm := frm) (too := too) (amt := amt) (g := acc) (h := net) hb hc) (4 - k)
    rw [show k + 1 + (4 - k) = 5 by omega] at e
    rw [okS_e e] at h
    cases h
/-- what goes of a set -/
def snB (frm too amt : Nat → Int32) (cn : Nat → Option Nat) (S : Nat) (acc net wai : Nat → Int32) : Nat → (Nat → Int32) × (Nat → Int32) × (Nat → Int32)
  | 0 => (acc, net, wai)
  | k + 1 => if S.testBit k = true then (match cn k with
      | none => snB frm too amt cn S acc net wai k
      | some p => (mvA (ix (frm p)) (ix (too p)) (amt p) (snB frm too amt cn S acc net wai k).1, mvN (ix (frm p)) (ix (too p)) (amt p) (snB frm too amt cn S acc net wai k).2.1, upd (snB frm too amt cn S acc net wai k).2.2 p 0)) else snB frm too amt cn S acc net wai k
def bestQ (L : List Nat) (flo bnd frm too amt acc net wai : Nat → Int32) : Nat := bestS (okS frm too amt flo bnd (fcnQ L wai frm) 5 acc net) 32
def togF (L : List Nat) (flo bnd frm too amt acc net wai : Nat → Int32) : T4 :=
  ((snB frm too amt (fcnQ L wai frm) (bestQ L flo bnd frm too amt acc net wai) acc net wai 5).1, (snB frm too amt (fcnQ L wai frm) (bestQ L flo bnd frm too amt acc net wai) acc net wai 5).2.1, (snB frm too amt (fcnQ L wai frm) (bestQ L flo bnd frm too amt acc net wai) acc net wai 5).2.2, pc5 (bestQ L flo bnd frm too amt acc net wai))
def rndF (L : List Nat) (flo bnd frm too amt : Nat → Int32) (small : Int32) (acc net wai : Nat → Int32) : T4 :=
  if (passF L flo bnd frm too amt small acc net wai 5).2.2.2 = 0 then togF L flo bnd frm too amt (passF L flo bnd frm too amt small acc net wai 5).1 (passF L flo bnd frm too amt small acc net wai 5).2.1 (passF L flo bnd frm too amt small acc net wai 5).2.2.1 else passF L flo bnd frm too amt small acc net wai 5
def runF (L : List Nat) (flo bnd frm too amt : Nat → Int32) (small : Int32) : Nat → (Nat → Int32) → (Nat → Int32) → (Nat → Int32) → Int32 → (Nat → Int32) × (Nat → Int32) × (Nat → Int32) × Int32
  | 0, acc, net, wai, g => (acc, net, wai, g)
  | f + 1, acc, net, wai, g => if (rndF L flo bnd frm too amt small acc net wai).2.2.2 = 0 then ((rndF L flo bnd frm too amt small acc net wai).1, (rndF L flo bnd frm too amt small acc net wai).2.1, (rndF L flo bnd frm too amt small acc net wai).2.2.1, g)
    else runF L flo bnd frm too amt small f (rndF L flo bnd frm too amt small acc net wai).1 (rndF L flo bnd frm too amt small acc net wai).2.1 (rndF L flo bnd frm too amt small acc net wai).2.2.1 (g + nI (rndF L flo bnd frm too amt small acc net wai).2.2.2)
def anyB (ok : Nat → Bool) (N : Nat) : Bool := (List.range N).any (fun S => decide (1 ≤ S) && ok S)
theorem anyB_y {ok : Nat → Bool} {N S : Nat} (h1 : 1 ≤ S) (h2 : S < N) (h : ok S = true) : anyB ok N = true := by
  unfold anyB
  rw [List.any_eq_true]
  exact ⟨S, List.mem_range.mpr h2, by simp [h1, h]⟩
theorem anyB_n {ok : Nat → Bool} {N : Nat} (h : ∀ S, S < N → 1 ≤ S → ok S = false) : anyB ok N = false := by
  unfold anyB
  rw [List.any_eq_false]
  intro S hS
  by_cases h1 : 1 ≤ S
  · simp [h S (List.mem_range.mp hS) h1]
  · simp [h1]
theorem bestS_1 (ok : Nat → Bool) : bestS ok 1 = 0 := by simp [bestS]
theorem bestS_y {ok : Nat → Bool} {s : Nat} (h1 : ¬ pc5 s ≤ pc5 (bestS ok s)) (h2 : ok s = true) : bestS ok (s + 1) = s := by
  rw [bestS, if_pos ⟨by omega, h2⟩]
theorem bestS_n1 {ok : Nat → Bool} {s : Nat} (h1 : pc5 s ≤ pc5 (bestS ok s)) : bestS ok (s + 1) = bestS ok s := by
  rw [bestS, if_neg (fun h => by omega)]
theorem bestS_n2 {ok : Nat → Bool} {s : Nat} (h1 : ¬ ok s = true) : bestS ok (s + 1) = bestS ok s := by
  rw [bestS, if_neg (fun h => h1 h.2)]
theorem filC_at {f : Nat → Option Nat} {c : Nat → Int32} {i k : Nat} (h : k < i) : filC f c i k = oI (f k) := by simp [filC, h]
theorem passF_le (L : List Nat) (flo bnd frm too amt : Nat → Int32) (small : Int32) (acc net wai : Nat → Int32) : ∀ b, (passF L flo bnd frm too amt small acc net wai b).2.2.2 ≤ b
  | 0 => Nat.le_refl 0
  | b + 1 => by
    have := passF_le L flo bnd frm too amt small acc net wai b
    unfold passF
    split
    · omega
    · dsimp only; omega
theorem togF_le (L : List Nat) (flo bnd frm too amt acc net wai : Nat → Int32) : (togF L flo bnd frm too amt acc net wai).2.2.2 ≤ 5 := pc5_le _
def wf3 (n : Nat) (f : Nat → Int32) : Prop := ∀ p, p < n → f p = nI (ix (f p)) ∧ ix (f p) < 3
def insP (byp : Nat → Int32) (n j : Nat) : Nat → Int32 := fun i => if j < i ∧ i ≤ n then byp (i - 1) else byp i
theorem insP_0 (byp : Nat → Int32) (n : Nat) : insP byp n n = byp := by
  funext i; unfold insP; rw [if_neg (by omega)]
theorem insP_at {byp : Nat → Int32} {n j i : Nat} (h : i ≤ j) : insP byp n j i = byp i := by
  unfold insP; rw [if_neg (by omega)]
theorem insP_s {byp : Nat → Int32} {n j : Nat} {x : Int32} (h0 : 0 < j) (hj : j ≤ n) (h : byp (j - 1) = x) : upd (insP byp n j) j x = insP byp n (j - 1) := by
  subst h
  funext i
  unfold upd insP
  by_cases e : i = j
  · subst e; rw [if_pos rfl, if_pos (by omega)]
  · rw [if_neg e]
    by_cases h2 : j < i ∧ i ≤ n
    · rw [if_pos h2, if_pos (by omega)]
    · rw [if_neg h2, if_neg (by omega)]
theorem upd_ne {f : Nat → Int32} {k j : Nat} {x y : Int32} (h : j ≠ k) (e : f j = y) : upd f k x j = y := by unfold upd; rw [if_neg h]; exact e
theorem ordL_pri {pri : Nat → Int32} {n : Nat} : (ordL pri n).Pairwise (fun a b => ix (pri b) ≤ ix (pri a)) := by
  have hP : ∀ (v : Int32), ∀ a ∈ (List.range n).filter (fun p => decide (pri p = v)), pri a = v := fun v a ha => of_decide_eq_true (List.mem_filter.mp ha).2
  have hs : ∀ (v : Int32), ((List.range n).filter (fun p => decide (pri p = v))).Pairwise (fun a b => ix (pri b) ≤ ix (pri a)) := by
    intro v
    rw [List.pairwise_iff_getElem]
    intro i j hi hj _
    rw [hP v _ (List.getElem_mem hi), hP v _ (List.getElem_mem hj)]
    exact Nat.le_refl _
  unfold ordL
  rw [List.pairwise_append, List.pairwise_append]
  refine ⟨hs 2, ⟨hs 1, hs 0, fun a ha b hb => ?_⟩, fun a ha b hb => ?_⟩
  · rw [hP 1 a ha, hP 0 b hb]; decide
  · rcases List.mem_append.mp hb with hb | hb
    · rw [hP 2 a ha, hP 1 b hb]; decide
    · rw [hP 2 a ha, hP 0 b hb]; decide
theorem ordL_le {pri : Nat → Int32} {n i k p q : Nat} (h : i ≤ k) (hp : (ordL pri n)[i]? = some p) (hq : (ordL pri n)[k]? = some q) : ix (pri q) ≤ ix (pri p) := by
  obtain ⟨h1, e1⟩ := List.getElem?_eq_some_iff.mp hp
  obtain ⟨h2, e2⟩ := List.getElem?_eq_some_iff.mp hq
  rcases Nat.lt_or_eq_of_le h with h3 | h3
  · have := (List.pairwise_iff_getElem.mp (ordL_pri (pri := pri) (n := n))) i k h1 h2 h3
    rw [e1, e2] at this
    exact this
  · subst h3
    rw [hp] at hq
    cases hq
    exact Nat.le_refl _
theorem split_at {L A B : List Nat} {P : Nat → Prop} {j : Nat} (e : L = A ++ B) (hA : ∀ a ∈ A, P a) (hB : ∀ b ∈ B, ¬ P b) (hj : j ≤ L.length) (h1 : ∀ i p, i < j → L[i]? = some p → P p) (h2 : ∀ i p, j ≤ i → L[i]? = some p → ¬ P p) : j = A.length := by
  rcases Nat.lt_trichotomy j A.length with h | h | h
  · exfalso
    have e1 : L[j]? = some A[j] := by rw [e, List.getElem?_append_left h]; exact List.getElem?_eq_getElem h
    exact h2 j _ (Nat.le_refl _) e1 (hA _ (List.getElem_mem h))
  · exact h
  · exfalso
    have hl : A.length < L.length := by omega
    have e0 : L.length = A.length + B.length := by rw [e, List.length_append]
    have hb : 0 < B.length := by omega
    have e1 : L[A.length]? = some B[0] := by rw [e, List.getElem?_append_right (Nat.le_refl _), Nat.sub_self]; exact List.getElem?_eq_getElem hb
    exact hB _ (List.getElem_mem hb) (h1 A.length _ h e1)
theorem flt_upd {pri : Nat → Int32} {n : Nat} {x v : Int32} : (List.range (n + 1)).filter (fun p => decide (upd pri n x p = v)) = (List.range n).filter (fun p => decide (pri p = v)) ++ if x = v then [n] else [] := by
  rw [List.range_succ, List.filter_append]
  congr 1
  · apply List.filter_congr
    intro p hp
    have : p ≠ n := by have := List.mem_range.mp hp; omega
    simp [upd, this]
  · by_cases h : x = v <;> simp [upd, h]
theorem ins_ord {pri : Nat → Int32} {n r j : Nat} (hr : r < 3) (hw : wf3 n pri) (hj : j ≤ (ordL pri n).length) (h1 : ∀ i p, i < j → (ordL pri n)[i]? = some p → r ≤ ix (pri p)) (h2 : ∀ i p, j ≤ i → (ordL pri n)[i]? = some p → ix (pri p) < r) :
    ordL (upd pri n (nI r)) (n + 1) = (ordL pri n).take j ++ n :: (ordL pri n).drop j := by
  have hP : ∀ (v : Int32), ∀ a ∈ (List.range n).filter (fun p => decide (pri p = v)), pri a = v := fun v a ha => of_decide_eq_true (List.mem_filter.mp ha).2
  have key : ∀ A B : List Nat, ordL pri n = A ++ B → (∀ a ∈ A, r ≤ ix (pri a)) → (∀ b ∈ B, ix (pri b) < r) → (ordL pri n).take j ++ n :: (ordL pri n).drop j = A ++ n :: B := by
    intro A B e hA hB
    have hjA : j = A.length := split_at (P := fun p => r ≤ ix (pri p)) e hA (fun b hb => by have := hB b hb; omega) hj h1 (fun i p hi hp => by have := h2 i p hi hp; omega)
    rw [hjA, e]
    simp
  have e2 : ix (2 : Int32) = 2 := by decide
  have e1 : ix (1 : Int32) = 1 := by decide
  have e0 : ix (0 : Int32) = 0 := by decide
  rcases (show r = 0 ∨ r = 1 ∨ r = 2 by omega) with rfl | rfl | rfl
  · rw [key (ordL pri n) [] (by simp) (fun a _ => Nat.zero_le _) (fun b hb => by cases hb)]
    unfold ordL
    rw [flt_upd, flt_upd, flt_upd]
    simp [show ¬ nI 0 = 2 by decide, show ¬ nI 0 = 1 by decide, show nI 0 = 0 by decide]
  · rw [key ((List.range n).filter (fun p => decide (pri p = 2)) ++ (List.range n).filter (fun p => decide (pri p = 1))) ((List.range n).filter (fun p => decide (pri p = 0))) (by unfold ordL; rw [List.append_assoc]) (fun a ha => ?_) (fun b hb => by rw [hP 0 b hb]; decide)]
    · unfold ordL
      rw [flt_upd, flt_upd, flt_upd]
      simp [show ¬ nI 1 = 2 by decide, show nI 1 = 1 by decide, show ¬ nI 1 = 0 by decide]
    · rcases List.mem_append.mp ha with h | h
      · rw [hP 2 a h]; decide
      · rw [hP 1 a h]; decide
  · rw [key ((List.range n).filter (fun p => decide (pri p = 2))) ((List.range n).filter (fun p => decide (pri p = 1)) ++ (List.range n).filter (fun p => decide (pri p = 0))) rfl (fun a ha => by rw [hP 2 a ha]; decide) (fun b hb => ?_)]
    · unfold ordL
      rw [flt_upd, flt_upd, flt_upd]
      simp [show nI 2 = 2 by decide, show ¬ nI 2 = 1 by decide, show ¬ nI 2 = 0 by decide]
    · rcases List.mem_append.mp hb with h | h
      · rw [hP 1 b h]; decide
      · rw [hP 0 b h]; decide
theorem byp_len {byp pri : Nat → Int32} {n : Nat} (h : bypOK byp pri n) : (ordL pri n).length = n := by
  refine Nat.le_antisymm (ordL_len pri n) ?_
  cases n with
  | zero => exact Nat.zero_le _
  | succ k =>
    obtain ⟨p, hp, -⟩ := h k (Nat.lt_succ_self k)
    exact (List.getElem?_eq_some_iff.mp hp).1
theorem ins_ok {byp pri : Nat → Int32} {n r j : Nat} (hr : r < 3) (hw : wf3 n pri) (hb : bypOK byp pri n) (hj : j ≤ n) (h1 : ∀ i p, i < j → (ordL pri n)[i]? = some p → r ≤ ix (pri p)) (h2 : ∀ i p, j ≤ i → (ordL pri n)[i]? = some p → ix (pri p) < r) :
    bypOK (upd (insP byp n j) j (nI n)) (upd pri n (nI r)) (n + 1) := by
  have hl := byp_len hb
  intro i hi
  rw [ins_ord hr hw (by omega) h1 h2]
  rcases Nat.lt_trichotomy i j with h | h | h
  · obtain ⟨p, hp, e⟩ := hb i (by omega)
    refine ⟨p, ?_, ?_⟩
    · rw [List.getElem?_append_left (by rw [List.length_take]; omega), List.getElem?_take_of_lt h]; exact hp
    · exact upd_ne (by omega) ((insP_at (by omega)).trans e)
  · subst h
    refine ⟨n, ?_, by unfold upd; rw [if_pos rfl]⟩
    rw [List.getElem?_append_right (by rw [List.length_take]; omega), List.length_take, show i - min i (ordL pri n).length = 0 by omega]
    rfl
  · obtain ⟨p, hp, e⟩ := hb (i - 1) (by omega)
    refine ⟨p, ?_, ?_⟩
    · rw [List.getElem?_append_right (by rw [List.length_take]; omega), List.length_take, show i - min j (ordL pri n).length = (i - j - 1) + 1 by omega, List.getElem?_cons_succ, List.getElem?_drop, show j + (i - j - 1) = i - 1 by omega]
      exact hp
    · refine upd_ne (by omega) ?_
      unfold insP
      rw [if_pos (by omega)]
      exact e
theorem wf5_upd {n k : Nat} {f : Nat → Int32} (hn : n < 2147483648) (h : wf5 n f) (hk : k < 5) : wf5 (n + 1) (upd f n (nI k)) := by
  intro p hp
  unfold upd
  by_cases e : p = n
  · rw [if_pos e, ix_nI (by omega)]; exact ⟨rfl, hk⟩
  · rw [if_neg e]; exact h p (by omega)
theorem wf3_upd {n k : Nat} {f : Nat → Int32} (h : wf3 n f) (hk : k < 3) : wf3 (n + 1) (upd f n (nI k)) := by
  intro p hp
  unfold upd
  by_cases e : p = n
  · rw [if_pos e, ix_nI (by omega)]; exact ⟨rfl, hk⟩
  · rw [if_neg e]; exact h p (by omega)
/-- a pledge is sold -/
def selA (b d : Nat) (due brought : Int32) (acc : Nat → Int32) : Nat → Int32 := upd (upd acc d (acc d + (if due < brought then due else brought))) b (upd acc d (acc d + (if due < brought then due else brought)) b + (brought - (if due < brought then due else brought)))
abbrev M6 : Type := (Nat → Int32) × (Nat → Int32) × (Nat → Int32) × (Nat → Int32) × Int32 × Nat
def mnS (flo frm too ldr bor due plg : Nat → Int32) (price : Int32) (mk : Nat) (r : M6) (l : Nat) : M6 :=
  if r.2.2.1 (ix (bor l)) = 0 ∧ flo (ix (bor l)) ≤ r.1 (ix (bor l)) - due l then (mvA (ix (bor l)) (ix (ldr l)) (due l) r.1, upd r.2.1 (ix (bor l)) (r.2.1 (ix (bor l)) + plg l), r.2.2.1, r.2.2.2.1, r.2.2.2.2.1, r.2.2.2.2.2)
  else if r.2.2.1 (ix (bor l)) = 0 then (selA (ix (bor l)) (ix (ldr l)) (due l) (plg l * price) r.1, r.2.1, upd r.2.2.1 (ix (bor l)) 1, dropW frm too (ix (bor l)) mk r.2.2.2.1, r.2.2.2.2.1 + plg l * price, r.2.2.2.2.2 + 1)
  else (selA (ix (bor l)) (ix (ldr l)) (due l) (plg l * price) r.1, r.2.1, r.2.2.1, r.2.2.2.1, r.2.2.2.2.1 + plg l * price, r.2.2.2.2.2)
def mnF (flo frm too ldr bor due plg : Nat → Int32) (price : Int32) (mk : Nat) (r0 : M6) (l0 : Nat) : Nat → M6
  | 0 => r0
  | k + 1 => mnS flo frm too ldr bor due plg price mk (mnF flo frm too ldr bor due plg price mk r0 l0 k) (l0 + k)
theorem mnS_le (flo frm too ldr bor due plg : Nat → Int32) (price : Int32) (mk : Nat) (r : M6) (l : Nat) : (mnS flo frm too ldr bor due plg price mk r l).2.2.2.2.2 ≤ r.2.2.2.2.2 + 1 := by
  unfold mnS
  split
  · exact Nat.le_succ _
  · split
    · exact Nat.le_refl _
    · exact Nat.le_succ _
theorem mnF_le (flo frm too ldr bor due plg : Nat → Int32) (price : Int32) (mk : Nat) (r0 : M6) (l0 : Nat) : ∀ k, (mnF flo frm too ldr bor due plg price mk r0 l0 k).2.2.2.2.2 ≤ r0.2.2.2.2.2 + k
  | 0 => Nat.le_refl _
  | k + 1 => by
    have h1 := mnF_le flo frm too ldr bor due plg price mk r0 l0 k
    have h2 := mnS_le flo frm too ldr bor due plg price mk (mnF flo frm too ldr bor due plg price mk r0 l0 k) (l0 + k)
    show (mnS flo frm too ldr bor due plg price mk (mnF flo frm too ldr bor due plg price mk r0 l0 k) (l0 + k)).2.2.2.2.2 ≤ _
    omega
theorem hj2_s {L : List Nat} {j q : Nat} {P : Nat → Prop} (h0 : 0 < j) (hq : L[j - 1]? = some q) (hP : P q) (h : ∀ i p, j ≤ i → L[i]? = some p → P p) : ∀ i p, j - 1 ≤ i → L[i]? = some p → P p := by
  intro i p hi hp
  rcases Nat.lt_or_ge i j with h9 | h9
  · have e9 : i = j - 1 := by omega
    subst e9
    rw [hq] at hp
    cases hp
    exact hP
  · exact h i p h9 hp
theorem bestS_lt1 (ok : Nat → Bool) (s : Nat) (h : 1 ≤ s) : bestS ok s < s := by
  obtain ⟨k, rfl⟩ : ∃ k, s = k + 1 := ⟨s - 1, by omega⟩
  have := bestS_lt ok k
  unfold bestS
  split <;> omega
theorem mnS_r {flo frm too ldr bor due plg : Nat → Int32} {price : Int32} {mk l : Nat} {r : M6} (h : r.2.2.1 (ix (bor l)) = 0 ∧ flo (ix (bor l)) ≤ r.1 (ix (bor l)) - due l) : mnS flo frm too ldr bor due plg price mk r l = (mvA (ix (bor l)) (ix (ldr l)) (due l) r.1, upd r.2.1 (ix (bor l)) (r.2.1 (ix (bor l)) + plg l), r.2.2.1, r.2.2.2.1, r.2.2.2.2.1, r.2.2.2.2.2) := if_pos h
theorem mnS_c {flo frm too ldr bor due plg : Nat → Int32} {price : Int32} {mk l : Nat} {r : M6} (h : ¬ (r.2.2.1 (ix (bor l)) = 0 ∧ flo (ix (bor l)) ≤ r.1 (ix (bor l)) - due l)) (h2 : r.2.2.1 (ix (bor l)) = 0) : mnS flo frm too ldr bor due plg price mk r l = (selA (ix (bor l)) (ix (ldr l)) (due l) (plg l * price) r.1, r.2.1, upd r.2.2.1 (ix (bor l)) 1, dropW frm too (ix (bor l)) mk r.2.2.2.1, r.2.2.2.2.1 + plg l * price, r.2.2.2.2.2 + 1) := (if_neg h).trans (if_pos h2)
theorem mnS_o {flo frm too ldr bor due plg : Nat → Int32} {price : Int32} {mk l : Nat} {r : M6} (h : ¬ (r.2.2.1 (ix (bor l)) = 0 ∧ flo (ix (bor l)) ≤ r.1 (ix (bor l)) - due l)) (h2 : ¬ r.2.2.1 (ix (bor l)) = 0) : mnS flo frm too ldr bor due plg price mk r l = (selA (ix (bor l)) (ix (ldr l)) (due l) (plg l * price) r.1, r.2.1, r.2.2.1, r.2.2.2.1, r.2.2.2.2.1 + plg l * price, r.2.2.2.2.2) := (if_neg h).trans (if_neg h2)
theorem z_rng {v lo hi : Int32} (h : ¬ (¬ v < lo ∧ ¬ hi < v)) : v < lo ∨ hi < v := by
  by_cases h1 : v < lo
  · exact Or.inl h1
  · by_cases h2 : hi < v
    · exact Or.inr h2
    · exact absurd ⟨h1, h2⟩ h
theorem z_flo {f a : Int32} (h : f < -1000000 ∨ 0 < f ∨ a < f) : f < -1000000 ∨ (if a < 0 then a else 0) < f := by
  rcases h with h | h | h
  · exact Or.inl h
  · refine Or.inr ?_
    split
    · rename_i h2; exact Int32.lt_trans h2 h
    · exact h
  · refine Or.inr ?_
    split
    · exact h
    · rename_i h2; exact Int32.lt_of_le_of_lt (Int32.not_lt.mp h2) h
theorem z_bnd {x n : Int32} (h : x < 0 ∨ 1000000 < x ∨ x < n) : x < (if 0 < n then n else 0) ∨ 1000000 < x := by
  rcases h with h | h | h
  · refine Or.inl ?_
    split
    · rename_i h2; exact Int32.lt_trans h h2
    · exact h
  · exact Or.inr h
  · refine Or.inl ?_
    split
    · exact h
    · rename_i h2; exact Int32.lt_of_lt_of_le h (Int32.not_lt.mp h2)
theorem z_lnd {a b c d e f : Prop} (ha : a) (hb : b) (h : ¬ (a ∧ b ∧ c ∧ ¬ d ∧ ¬ e ∧ ¬ f)) : ¬ c ∨ d ∨ e ∨ f := by
  by_cases hc : c
  · by_cases hd : d
    · exact Or.inr (Or.inl hd)
    · by_cases he : e
      · exact Or.inr (Or.inr (Or.inl he))
      · by_cases hf : f
        · exact Or.inr (Or.inr (Or.inr hf))
        · exact absurd ⟨ha, hb, hc, hd, he, hf⟩ h
  · exact Or.inl hc
theorem z_no {ok : Nat → Bool} {s : Nat} (h : ∀ S, S < s → 1 ≤ S → ok S = false) (hs : ¬ ok s = true) : ∀ S, S < s + 1 → 1 ≤ S → ok S = false := by
  intro S h1 h2
  by_cases e : S = s
  · subst e; simpa using hs
  · exact h S (by omega) h2
theorem z_add0 (x : Int32) : x + 0 = x := by simp
theorem z_bitm (S b : Nat) (hS : S < 1024) (hb : b < 10) : ((nI S >>> (nI b &&& 31)) &&& 1) = nI ((S.testBit b).toNat) := by
  have h0 : ∀ b, b < 10 → ((nI b &&& 31).toBitVec.smod 32).toNat = b := by decide
  rw [pk_shrN (by omega) (nI b &&& 31) b (h0 b hb)]
  have h1 : S / 2 ^ b ≤ S := Nat.div_le_self _ _
  have h2 : nI (S / 2 ^ b) &&& 1 = nI (S / 2 ^ b % 2 ^ 1) := pk_andN (by omega) 1 (by decide)
  rw [h2]
  congr 1
  rw [Nat.testBit_eq_decide_div_mod_eq]
  have h3 : S / 2 ^ b % 2 ^ 1 < 2 := Nat.mod_lt _ (by decide)
  rcases (show S / 2 ^ b % 2 ^ 1 = 0 ∨ S / 2 ^ b % 2 ^ 1 = 1 by omega) with e | e
  · rw [e]
    have : ¬ (S / 2 ^ b % 2 = 1) := by rw [show (2 : Nat) = 2 ^ 1 from rfl] at e ⊢; omega
    simp [this]
  · rw [e]
    have : S / 2 ^ b % 2 = 1 := e
    simp [this]
end SP
end
