section
-- ===== PART A: goes FIRST, ahead of the names: the tables' words, and 'selects' of the private methods out of them =====
/-- a private method of a class that the tables say can be made, by its rows of tables_1 -/
def lw_okq (q : MethodName × Nat) : Prop := (q.1.cls ≠ "java/lang/invoke/MethodHandle" ∧ q.1.cls ≠ "java/lang/invoke/VarHandle") ∧ Cond.instantiable q.1.cls q.2 ∈ tables_1 ∧ Cond.privateMethod q.1 ∈ tables_1 ∧ Cond.instanceMethod q.1 ∈ tables_1
theorem lw_p0 : lw_okq (⟨"Queuefloat", "goThroughBanks", "()I"⟩, 12) := ⟨⟨by decide +kernel, by decide +kernel⟩, List.mem_of_getElem? (i := 17) (by decide +kernel), List.mem_of_getElem? (i := 165) (by decide +kernel), List.mem_of_getElem? (i := 166) (by decide +kernel)⟩
theorem lw_p1 : lw_okq (⟨"Queuefloat", "nextToGo", "(I)I"⟩, 12) := ⟨⟨by decide +kernel, by decide +kernel⟩, List.mem_of_getElem? (i := 17) (by decide +kernel), List.mem_of_getElem? (i := 169) (by decide +kernel), List.mem_of_getElem? (i := 170) (by decide +kernel)⟩
theorem lw_p2 : lw_okq (⟨"Queuefloat", "obstacle", "(I)I"⟩, 12) := ⟨⟨by decide +kernel, by decide +kernel⟩, List.mem_of_getElem? (i := 17) (by decide +kernel), List.mem_of_getElem? (i := 181) (by decide +kernel), List.mem_of_getElem? (i := 182) (by decide +kernel)⟩
theorem lw_p3 : lw_okq (⟨"Queuefloat", "firstSmallFree", "(I)I"⟩, 12) := ⟨⟨by decide +kernel, by decide +kernel⟩, List.mem_of_getElem? (i := 17) (by decide +kernel), List.mem_of_getElem? (i := 188) (by decide +kernel), List.mem_of_getElem? (i := 189) (by decide +kernel)⟩
theorem lw_p4 : lw_okq (⟨"Queuefloat", "send", "(I)V"⟩, 12) := ⟨⟨by decide +kernel, by decide +kernel⟩, List.mem_of_getElem? (i := 17) (by decide +kernel), List.mem_of_getElem? (i := 193) (by decide +kernel), List.mem_of_getElem? (i := 194) (by decide +kernel)⟩
theorem lw_p5 : lw_okq (⟨"Queuefloat", "sendLargestSet", "()I"⟩, 12) := ⟨⟨by decide +kernel, by decide +kernel⟩, List.mem_of_getElem? (i := 17) (by decide +kernel), List.mem_of_getElem? (i := 210) (by decide +kernel), List.mem_of_getElem? (i := 211) (by decide +kernel)⟩
theorem lw_p6 : lw_okq (⟨"Queuefloat", "canGoTogether", "(II)Z"⟩, 12) := ⟨⟨by decide +kernel, by decide +kernel⟩, List.mem_of_getElem? (i := 17) (by decide +kernel), List.mem_of_getElem? (i := 220) (by decide +kernel), List.mem_of_getElem? (i := 221) (by decide +kernel)⟩
theorem lw_p7 : lw_okq (⟨"Queuefloat", "canRepay", "(I)Z"⟩, 12) := ⟨⟨by decide +kernel, by decide +kernel⟩, List.mem_of_getElem? (i := 17) (by decide +kernel), List.mem_of_getElem? (i := 250) (by decide +kernel), List.mem_of_getElem? (i := 251) (by decide +kernel)⟩
theorem lw_p8 : lw_okq (⟨"Queuefloat", "repay", "(I)V"⟩, 12) := ⟨⟨by decide +kernel, by decide +kernel⟩, List.mem_of_getElem? (i := 17) (by decide +kernel), List.mem_of_getElem? (i := 254) (by decide +kernel), List.mem_of_getElem? (i := 255) (by decide +kernel)⟩
theorem lw_p9 : lw_okq (⟨"Queuefloat", "close", "(I)I"⟩, 12) := ⟨⟨by decide +kernel, by decide +kernel⟩, List.mem_of_getElem? (i := 17) (by decide +kernel), List.mem_of_getElem? (i := 259) (by decide +kernel), List.mem_of_getElem? (i := 260) (by decide +kernel)⟩
theorem lw_p10 : lw_okq (⟨"Queuefloat", "sellPledge", "(I)V"⟩, 12) := ⟨⟨by decide +kernel, by decide +kernel⟩, List.mem_of_getElem? (i := 17) (by decide +kernel), List.mem_of_getElem? (i := 267) (by decide +kernel), List.mem_of_getElem? (i := 268) (by decide +kernel)⟩
theorem lw_p11 : lw_okq (⟨"java/lang/Throwable", "fillInStackTrace", "(I)Ljava/lang/Throwable;"⟩, 6) := ⟨⟨by decide +kernel, by decide +kernel⟩, List.mem_of_getElem? (i := 329) (by decide +kernel), List.mem_of_getElem? (i := 327) (by decide +kernel), List.mem_of_getElem? (i := 328) (by decide +kernel)⟩
theorem lw_p12 : lw_okq (⟨"Queuefloat", "requireOpen", "(I)V"⟩, 12) := ⟨⟨by decide +kernel, by decide +kernel⟩, List.mem_of_getElem? (i := 17) (by decide +kernel), List.mem_of_getElem? (i := 379) (by decide +kernel), List.mem_of_getElem? (i := 380) (by decide +kernel)⟩
theorem lw_p13 : lw_okq (⟨"Queuefloat", "requirePayment", "(I)V"⟩, 12) := ⟨⟨by decide +kernel, by decide +kernel⟩, List.mem_of_getElem? (i := 17) (by decide +kernel), List.mem_of_getElem? (i := 479) (by decide +kernel), List.mem_of_getElem? (i := 480) (by decide +kernel)⟩
theorem lw_p14 : lw_okq (⟨"Queuefloat", "listWaiting", "()I"⟩, 12) := ⟨⟨by decide +kernel, by decide +kernel⟩, List.mem_of_getElem? (i := 17) (by decide +kernel), List.mem_of_getElem? (i := 519) (by decide +kernel), List.mem_of_getElem? (i := 520) (by decide +kernel)⟩
theorem lw_p15 : lw_okq (⟨"Queuefloat", "requireLoanable", "(IIII)V"⟩, 12) := ⟨⟨by decide +kernel, by decide +kernel⟩, List.mem_of_getElem? (i := 17) (by decide +kernel), List.mem_of_getElem? (i := 537) (by decide +kernel), List.mem_of_getElem? (i := 538) (by decide +kernel)⟩
def lw_privs_1 : List (MethodName × Nat) := [(⟨"Queuefloat", "goThroughBanks", "()I"⟩, 12), (⟨"Queuefloat", "nextToGo", "(I)I"⟩, 12), (⟨"Queuefloat", "obstacle", "(I)I"⟩, 12), (⟨"Queuefloat", "firstSmallFree", "(I)I"⟩, 12), (⟨"Queuefloat", "send", "(I)V"⟩, 12), (⟨"Queuefloat", "sendLargestSet", "()I"⟩, 12), (⟨"Queuefloat", "canGoTogether", "(II)Z"⟩, 12), (⟨"Queuefloat", "canRepay", "(I)Z"⟩, 12), (⟨"Queuefloat", "repay", "(I)V"⟩, 12), (⟨"Queuefloat", "close", "(I)I"⟩, 12), (⟨"Queuefloat", "sellPledge", "(I)V"⟩, 12), (⟨"java/lang/Throwable", "fillInStackTrace", "(I)Ljava/lang/Throwable;"⟩, 6), (⟨"Queuefloat", "requireOpen", "(I)V"⟩, 12), (⟨"Queuefloat", "requirePayment", "(I)V"⟩, 12), (⟨"Queuefloat", "listWaiting", "()I"⟩, 12), (⟨"Queuefloat", "requireLoanable", "(IIII)V"⟩, 12)]
theorem lw_r1 : ∀ q ∈ lw_privs_1, lw_okq q := List.forall_mem_cons.mpr ⟨lw_p0, List.forall_mem_cons.mpr ⟨lw_p1, List.forall_mem_cons.mpr ⟨lw_p2, List.forall_mem_cons.mpr ⟨lw_p3, List.forall_mem_cons.mpr ⟨lw_p4, List.forall_mem_cons.mpr ⟨lw_p5, List.forall_mem_cons.mpr ⟨lw_p6, List.forall_mem_cons.mpr ⟨lw_p7, List.forall_mem_cons.mpr ⟨lw_p8, List.forall_mem_cons.mpr ⟨lw_p9, List.forall_mem_cons.mpr ⟨lw_p10, List.forall_mem_cons.mpr ⟨lw_p11, List.forall_mem_cons.mpr ⟨lw_p12, List.forall_mem_cons.mpr ⟨lw_p13, List.forall_mem_cons.mpr ⟨lw_p14, List.forall_mem_cons.mpr ⟨lw_p15, fun _ h => absurd h List.not_mem_nil⟩⟩⟩⟩⟩⟩⟩⟩⟩⟩⟩⟩⟩⟩⟩⟩
theorem lw_p16 : lw_okq (⟨"Queuefloat", "pledgeWorth", "(I)I"⟩, 12) := ⟨⟨by decide +kernel, by decide +kernel⟩, List.mem_of_getElem? (i := 17) (by decide +kernel), List.mem_of_getElem? (i := 542) (by decide +kernel), List.mem_of_getElem? (i := 543) (by decide +kernel)⟩
theorem lw_p17 : lw_okq (⟨"QueuefloatModel", "asks", "(Z)Z"⟩, 25) := ⟨⟨by decide +kernel, by decide +kernel⟩, List.mem_of_getElem? (i := 552) (by decide +kernel), List.mem_of_getElem? (i := 646) (by decide +kernel), List.mem_of_getElem? (i := 647) (by decide +kernel)⟩
theorem lw_p18 : lw_okq (⟨"QueuefloatModel", "fails", "(I)I"⟩, 25) := ⟨⟨by decide +kernel, by decide +kernel⟩, List.mem_of_getElem? (i := 552) (by decide +kernel), List.mem_of_getElem? (i := 653) (by decide +kernel), List.mem_of_getElem? (i := 654) (by decide +kernel)⟩
theorem lw_p19 : lw_okq (⟨"QueuefloatModel", "isPayment", "(I)Z"⟩, 25) := ⟨⟨by decide +kernel, by decide +kernel⟩, List.mem_of_getElem? (i := 552) (by decide +kernel), List.mem_of_getElem? (i := 696) (by decide +kernel), List.mem_of_getElem? (i := 697) (by decide +kernel)⟩
theorem lw_p20 : lw_okq (⟨"QueuefloatModel", "waiting", "()I"⟩, 25) := ⟨⟨by decide +kernel, by decide +kernel⟩, List.mem_of_getElem? (i := 552) (by decide +kernel), List.mem_of_getElem? (i := 700) (by decide +kernel), List.mem_of_getElem? (i := 701) (by decide +kernel)⟩
theorem lw_p21 : lw_okq (⟨"QueuefloatModel", "next", "(I)I"⟩, 25) := ⟨⟨by decide +kernel, by decide +kernel⟩, List.mem_of_getElem? (i := 552) (by decide +kernel), List.mem_of_getElem? (i := 712) (by decide +kernel), List.mem_of_getElem? (i := 713) (by decide +kernel)⟩
theorem lw_p22 : lw_okq (⟨"QueuefloatModel", "at", "(II)I"⟩, 25) := ⟨⟨by decide +kernel, by decide +kernel⟩, List.mem_of_getElem? (i := 552) (by decide +kernel), List.mem_of_getElem? (i := 716) (by decide +kernel), List.mem_of_getElem? (i := 717) (by decide +kernel)⟩
theorem lw_p23 : lw_okq (⟨"QueuefloatModel", "reason", "(I)I"⟩, 25) := ⟨⟨by decide +kernel, by decide +kernel⟩, List.mem_of_getElem? (i := 552) (by decide +kernel), List.mem_of_getElem? (i := 720) (by decide +kernel), List.mem_of_getElem? (i := 721) (by decide +kernel)⟩
theorem lw_p24 : lw_okq (⟨"QueuefloatModel", "goes", "(I)V"⟩, 25) := ⟨⟨by decide +kernel, by decide +kernel⟩, List.mem_of_getElem? (i := 552) (by decide +kernel), List.mem_of_getElem? (i := 724) (by decide +kernel), List.mem_of_getElem? (i := 725) (by decide +kernel)⟩
theorem lw_p25 : lw_okq (⟨"QueuefloatModel", "moves", "(II)V"⟩, 25) := ⟨⟨by decide +kernel, by decide +kernel⟩, List.mem_of_getElem? (i := 552) (by decide +kernel), List.mem_of_getElem? (i := 728) (by decide +kernel), List.mem_of_getElem? (i := 729) (by decide +kernel)⟩
theorem lw_p26 : lw_okq (⟨"QueuefloatModel", "goTogether", "()I"⟩, 25) := ⟨⟨by decide +kernel, by decide +kernel⟩, List.mem_of_getElem? (i := 552) (by decide +kernel), List.mem_of_getElem? (i := 732) (by decide +kernel), List.mem_of_getElem? (i := 733) (by decide +kernel)⟩
theorem lw_p27 : lw_okq (⟨"QueuefloatModel", "isSet", "(I)Z"⟩, 25) := ⟨⟨by decide +kernel, by decide +kernel⟩, List.mem_of_getElem? (i := 552) (by decide +kernel), List.mem_of_getElem? (i := 736) (by decide +kernel), List.mem_of_getElem? (i := 737) (by decide +kernel)⟩
theorem lw_p28 : lw_okq (⟨"QueuefloatModel", "firsts", "(I)V"⟩, 25) := ⟨⟨by decide +kernel, by decide +kernel⟩, List.mem_of_getElem? (i := 552) (by decide +kernel), List.mem_of_getElem? (i := 740) (by decide +kernel), List.mem_of_getElem? (i := 741) (by decide +kernel)⟩
theorem lw_p29 : lw_okq (⟨"QueuefloatModel", "isSound", "()Z"⟩, 25) := ⟨⟨by decide +kernel, by decide +kernel⟩, List.mem_of_getElem? (i := 552) (by decide +kernel), List.mem_of_getElem? (i := 744) (by decide +kernel), List.mem_of_getElem? (i := 745) (by decide +kernel)⟩
theorem lw_p30 : lw_okq (⟨"QueuefloatModel", "moveSet", "(II)V"⟩, 25) := ⟨⟨by decide +kernel, by decide +kernel⟩, List.mem_of_getElem? (i := 552) (by decide +kernel), List.mem_of_getElem? (i := 760) (by decide +kernel), List.mem_of_getElem? (i := 761) (by decide +kernel)⟩
theorem lw_p31 : lw_okq (⟨"QueuefloatModel", "ends", "(I)Z"⟩, 25) := ⟨⟨by decide +kernel, by decide +kernel⟩, List.mem_of_getElem? (i := 552) (by decide +kernel), List.mem_of_getElem? (i := 781) (by decide +kernel), List.mem_of_getElem? (i := 782) (by decide +kernel)⟩
def lw_privs_2 : List (MethodName × Nat) := [(⟨"Queuefloat", "pledgeWorth", "(I)I"⟩, 12), (⟨"QueuefloatModel", "asks", "(Z)Z"⟩, 25), (⟨"QueuefloatModel", "fails", "(I)I"⟩, 25), (⟨"QueuefloatModel", "isPayment", "(I)Z"⟩, 25), (⟨"QueuefloatModel", "waiting", "()I"⟩, 25), (⟨"QueuefloatModel", "next", "(I)I"⟩, 25), (⟨"QueuefloatModel", "at", "(II)I"⟩, 25), (⟨"QueuefloatModel", "reason", "(I)I"⟩, 25), (⟨"QueuefloatModel", "goes", "(I)V"⟩, 25), (⟨"QueuefloatModel", "moves", "(II)V"⟩, 25), (⟨"QueuefloatModel", "goTogether", "()I"⟩, 25), (⟨"QueuefloatModel", "isSet", "(I)Z"⟩, 25), (⟨"QueuefloatModel", "firsts", "(I)V"⟩, 25), (⟨"QueuefloatModel", "isSound", "()Z"⟩, 25), (⟨"QueuefloatModel", "moveSet", "(II)V"⟩, 25), (⟨"QueuefloatModel", "ends", "(I)Z"⟩, 25)]
theorem lw_r2 : ∀ q ∈ lw_privs_2, lw_okq q := List.forall_mem_cons.mpr ⟨lw_p16, List.forall_mem_cons.mpr ⟨lw_p17, List.forall_mem_cons.mpr ⟨lw_p18, List.forall_mem_cons.mpr ⟨lw_p19, List.forall_mem_cons.mpr ⟨lw_p20, List.forall_mem_cons.mpr ⟨lw_p21, List.forall_mem_cons.mpr ⟨lw_p22, List.forall_mem_cons.mpr ⟨lw_p23, List.forall_mem_cons.mpr ⟨lw_p24, List.forall_mem_cons.mpr ⟨lw_p25, List.forall_mem_cons.mpr ⟨lw_p26, List.forall_mem_cons.mpr ⟨lw_p27, List.forall_mem_cons.mpr ⟨lw_p28, List.forall_mem_cons.mpr ⟨lw_p29, List.forall_mem_cons.mpr ⟨lw_p30, List.forall_mem_cons.mpr ⟨lw_p31, fun _ h => absurd h List.not_mem_nil⟩⟩⟩⟩⟩⟩⟩⟩⟩⟩⟩⟩⟩⟩⟩⟩
theorem lw_p32 : lw_okq (⟨"QueuefloatModel", "closes", "(I)V"⟩, 25) := ⟨⟨by decide +kernel, by decide +kernel⟩, List.mem_of_getElem? (i := 552) (by decide +kernel), List.mem_of_getElem? (i := 785) (by decide +kernel), List.mem_of_getElem? (i := 786) (by decide +kernel)⟩
def lw_privs_3 : List (MethodName × Nat) := [(⟨"QueuefloatModel", "closes", "(I)V"⟩, 25)]
theorem lw_r3 : ∀ q ∈ lw_privs_3, lw_okq q := List.forall_mem_cons.mpr ⟨lw_p32, fun _ h => absurd h List.not_mem_nil⟩
def lw_privs : List (MethodName × Nat) := lw_privs_1 ++ (lw_privs_2 ++ (lw_privs_3))
def lw_tbl : List Cond := k2_sels lw_privs ++ tables_1
theorem lw_privs_ok : ∀ q ∈ lw_privs, lw_okq q := by
  show ∀ q ∈ lw_privs_1 ++ (lw_privs_2 ++ (lw_privs_3)), lw_okq q
  exact List.forall_mem_append.mpr ⟨lw_r1, List.forall_mem_append.mpr ⟨lw_r2, lw_r3⟩⟩
-- ===== end of PART A; then your names; then what follows =====
end
section
/-! ===== BEGIN words of one list among another's, by their places ===== -/
theorem goodIn_r {big : List Cond} (ws : List Cond) (ps : List Nat) (hp : ws = ps.filterMap (fun i => big[i]?)) (h : ws.all goodWord = true) : GoodIn big ws := by
  intro w hw
  have h1 := List.all_eq_true.mp h w hw
  rw [hp] at hw
  obtain ⟨i, -, hi⟩ := List.mem_filterMap.mp hw
  have hm : w ∈ big := by first | exact List.mem_of_getElem? hi | exact List.getElem?_mem hi
  exact ⟨hm, good_of_word h1⟩
theorem goodIn_app {big a b : List Cond} (ha : GoodIn big a) (hb : GoodIn big b) : GoodIn big (a ++ b) := fun w h => (List.mem_append.mp h).elim (ha w) (hb w)
theorem goodIn_ca {big a b : List Cond} {c : Cond} (ha : GoodIn big (c :: a)) (hb : GoodIn big b) : GoodIn big (c :: (a ++ b)) := fun w h => (List.mem_cons.mp h).elim (fun e => ha w (List.mem_cons.mpr (Or.inl e))) (fun h => (List.mem_append.mp h).elim (fun h => ha w (List.mem_cons.mpr (Or.inr h))) (hb w))
theorem goodIn_sub {big ws : List Cond} (hm : ∀ w ∈ ws, w ∈ big) (h : ws.all goodWord = true) : GoodIn big ws := fun w hw => ⟨hm w hw, good_of_word (List.all_eq_true.mp h w hw)⟩
/-! ===== END ===== -/

/-! ===== BEGIN exceptions that leave a method, and their catching by the caller (launches without stack traces) ===== -/
section VXA
/-! The laws vx_back, vx_callV, vx_callS, vx_callSW, vx_throw0, vx_throwS follow proofs of the library, with one case more: JvmDerived/Free/Laws.lean (Back.of_free), Shelf42/LK1.lean (callV, callS), Shelf/KitTraced.lean (throwNew0V, throwNewS). -/
/-- where a method has thrown q: the class by its name, the cell, what was written, the world -/
def vx_T (XC : String → State → State → Prop) (st : State) (q : Addr) (t : State) (mc ms : Nat) (free : Addr → Prop) : Prop :=
  ∃ (E : String) (ce : Cell) (L : List Loc), XC E st t ∧ t.heap[q]? = some ce ∧ ce.vm = .none ∧ st.vm.findClass E = some ce.cls ∧ st.WarmedH t.vm ∧ st.sameButNew ({ t with vm := st.vm } : State) L mc ms ∧ ∀ z ∈ L, free z.base
def vx_Q (Qc : Array Value → State → Outcome → State → Prop) (XC : String → State → State → Prop) (mc ms : Nat) (free : Addr → Prop) : Array Value → State → Outcome → State → Prop := fun a st o t =>
  (Qc a st o t ∧ ∃ L, FrameEnd st o t L mc ms ∧ ∀ q ∈ L, free q.base) ∨ ∃ q, o = .threw q ∧ vx_T XC st q t mc ms free
/-- a callee that returns or throws -/
def vx_Met (l : Launch) (y : MethodName) (ws : List Cond) (rm : Room) (Pc : Array Value → State → Prop) (Qc : Array Value → State → Outcome → State → Prop) (XC : String → State → State → Prop) (mc ms : Nat) (free : Addr → Prop) : Prop :=
  MetFree l y (headSpec ws rm) Pc (fun _ _ _ _ _ => True) (vx_Q Qc XC mc ms free)
def vx_Post (XC : String → State → State → Prop) (mc ms : Nat) (free : Addr → Prop) : Pt → Array Value → Addr → Pt → Prop := fun A a q B =>
  ∃ (g : JFrame) (mk : MethodId) (t : State) (L : List Loc) (E : String) (ce : Cell), B.U.heap = t.heap ∧ B.U.vm = t.vm ∧ XC E (A.U.calling g mk a) t ∧ t.heap[q]? = some ce ∧ ce.vm = .none ∧ A.U.vm.findClass E = some ce.cls ∧ B.locs = A.locs ++ L ∧ (∀ z ∈ L, free z.base) ∧ B.cells = A.cells + mc ∧ B.slots = A.slots + ms
def vx_Back (l : Launch) (R : Room) (p : Program) (e : Env) (below : List Frame) (s : State) (sargs : Array Value) (y : MethodName) (len W9 : Nat)
    (Pre : Pt → Array Value → Prop) (Post : Pt → Array Value → Option Value → Pt → Prop) (PostX : Pt → Array Value → Addr → Pt → Prop) : Prop :=
  ∀ (m : MethodId) (meth : Method) (c : Code) (A : Pt) (g : JFrame) (ig : Instr) (mk : MethodId) (a : Array Value),
    Stand p l e R s m sargs below meth c A.U A.locs A.cells A.slots → g.method = m → g.locals.size = c.maxLocals → decode c.code g.pc = .ok (ig, len) →
    2 * g.monitorRoom + (g.stack.map fun v => v.category).sum ≤ W9 → A.U.methodNamed? y = some mk → Pre A a →
    (∃ (v : Option Value) (B : Pt), Stand p l e R s m sargs below meth c B.U B.locs B.cells B.slots ∧ Post A a v B ∧
      Steps p.tables e below (doInvoke e (A.U.setTop g) [] mk a).1 (B.U.setTop { g with pc := g.pc + len, stack := v.toList ++ g.stack })) ∨
    (∃ (q : Addr) (B : Pt), Stand p l e R s m sargs below meth c B.U B.locs B.cells B.slots ∧ PostX A a q B ∧
      Steps p.tables e below (doInvoke e (A.U.setTop g) [] mk a).1 ((B.U.setTop g).pushFrame (.throwing q)))
section Payer
variable {l : Launch} {R : Room} {p : Program} {e : Env} {below : List Frame} {s : State} {sargs : Array Value} {y : MethodName} {len W9 : Nat}
theorem vx_back {ws : List Cond} {rm : Room} {Pc : Array Value → State → Prop} {Qc : Array Value → State → Outcome → State → Prop} {XC : String → State → State → Prop} {mc ms : Nat} {free : Addr → Prop} {bytes : ByteArray} {maxL : Nat} {ret : Option FieldType}
    (hM : vx_Met l y ws rm Pc Qc XC mc ms free) (hblind : FrameBlind Pc) (hrc : rm.cells = mc) (hrs : rm.slots = ms)
    (hframes : rm.frames + 1 ≤ R.frames) (hlocals : W9 + (maxL + 11) + rm.locals ≤ R.locals)
    (hws : ∀ w ∈ ws, ∀ a' U, s.WarmedH U.vm → w.before a' U = true) (hcode : Cond.code y bytes maxL ret ∈ ws) (hinit : ∀ a' U, s.WarmedH U.vm → (Cond.initialized y.cls).before a' U = true) :
    vx_Back l R p e below s sargs y len W9 (PreOf R mc ms Pc) (PostOf Qc mc ms free) (vx_Post XC mc ms free) := by
  intro m meth c A g ig mk a X hg hsize hdg hW hn hp
  have h1 : (headSpec ws rm).pre.before a A.U = true := atoms_intro fun w hw => hws w hw _ _ X.warmed
  have h2 : (Cond.code y bytes maxL ret).before a A.U = true := hws _ hcode _ _ X.warmed
  have h3 : (Cond.initialized y.cls).before a A.U = true := hinit _ _ X.warmed
  have h4 : A.cells + (headSpec ws rm).room.cells ≤ R.cells := by rw [show (headSpec ws rm).room.cells = mc from hrc]; exact hp.1
  have h5 : A.slots + (headSpec ws rm).room.slots ≤ R.slots := by rw [show (headSpec ws rm).room.slots = ms from hrs]; exact hp.2.1
  have hPc : Pc a (A.U.calling g mk a) := hblind _ _ _ _ hp.2.2
  obtain ⟨U, Ls, c0, s0⟩ := A
  dsimp only [Pt.U, Pt.locs, Pt.cells, Pt.slots] at h1 h2 h3 h4 h5 X hn hPc ⊢
  obtain ⟨methY, cY, hmY, hcY, -, hlY, -, -, -, -⟩ := Cond.code_spec hn h2
  obtain ⟨kY, hkY, -⟩ := className_of_methodNamed hn
  have hinitY : kY.init = .initialized := Cond.initialized_spec (findClass_of_methodNamed hn) hkY h3
  have h : At U g.method c below := by rw [hg]; exact X.here
  have hlocals9 : W9 + (maxL + 11) + (headSpec ws rm).room.locals ≤ R.locals := hlocals
  have happ : (headSpec ws rm).appliesLoose y e.platform (U.calling g mk a) = true :=
    Spec.appliesLoose_calling (g := g) h hdg hn hkY hinitY
      (X.room_calling (g := g) (R' := (headSpec ws rm).room) hsize hmY hcY hframes (by rw [hlY]; omega) h4 h5) h1
  obtain ⟨mid, hmid⟩ := h.above
  have hfr : (U.setTop g).frames = (.java g :: mid) ++ below := by rw [State.frames_setTop' g h.top, hmid]; rfl
  obtain ⟨o, s₂, hsteps, -, hend, hq⟩ := Steps.callFree hM p X.admits X.cas X.clock (acts := []) hfr happ hPc trivial
  have hq' : vx_Q Qc XC mc ms free a (U.calling g mk a) o s₂ := hq
  rw [State.frames_setTop' g h.top] at hend
  obtain ⟨g₀, hg0⟩ := Option.isSome_iff_exists.mp h.top
  obtain ⟨r, hr⟩ := State.topJava?_eq_some.mp hg0
  have hr' : (({ U with heap := s₂.heap, slotsUsed := s₂.slotsUsed } : State).setVm s₂.vm).frames = .java g₀ :: r := hr
  rcases hq' with ⟨hqc, L, hfe, hL⟩ | ⟨q, rfl, E, ce, L, hx, hce, hcv, hcl, hW₂, hsm, hL⟩
  · obtain ⟨⟨v, rfl⟩, hW₂, e2, q2, q3, q4, q5, q6⟩ := id hfe
    have e3 : s₂ = ({ (U.calling g mk a).setFrames s₂.frames with heap := s₂.heap, slotsUsed := s₂.slotsUsed } : State).setVm s₂.vm := by
      have : s₂ = ({ s₂ with vm := (U.calling g mk a).vm } : State).setVm s₂.vm := rfl
      rw [e2] at this
      exact this
    obtain ⟨c₂, i₂, len₂, hc₂, hd₂, hf₂⟩ := hend
    have hW' : U.WarmedH s₂.vm := hW₂
    have hcc : c₂ = c := by
      have h1 : s₂.code? g.method = U.code? g.method := by
        rw [State.code?_eq, State.code?_eq, hW'.alike.method?]
      exact Option.some.inj (hc₂.symm.trans (h1.trans h.code))
    subst hcc
    have hlen : len₂ = len := by rw [hdg] at hd₂; cases hd₂; rfl
    subst hlen
    have hs₂ : s₂ = (({ U with heap := s₂.heap, slotsUsed := s₂.slotsUsed } : State).setVm s₂.vm).setTop { g with pc := g.pc + len₂, stack := v.toList ++ g.stack } := by
      refine e3.trans ?_
      rw [hf₂, State.calling_eq h.top, State.setFrames_setFrames, State.setTop_of_frames _ hr', hr]
      rfl
    have hsame : U.sameButNew ({ U with heap := s₂.heap, slotsUsed := s₂.slotsUsed } : State) L mc ms := by
      refine ⟨?_, q2, q3, q4, q5, q6⟩
      obtain ⟨t, ht, -⟩ := State.frames_cons hr
      show ({ U with heap := s₂.heap, slotsUsed := s₂.slotsUsed } : State) = { U.setFrames U.frames with heap := s₂.heap, slotsUsed := s₂.slotsUsed }
      rw [State.setFrames_self ht]
    subst hg
    refine Or.inl ⟨v, ⟨(({ U with heap := s₂.heap, slotsUsed := s₂.slotsUsed } : State).setVm s₂.vm), Ls ++ L, c0 + mc, s0 + ms⟩,
      ⟨X.admits, X.cas, X.clock, X.frames, X.room, X.hears, X.method, X.code, (X.here.setHeapUsed s₂.heap s₂.slotsUsed).setVm hW'.alike, X.tail, State.WarmedH.trans X.warmed hW', X.limits, X.bytes, X.same.trans (hsame.setVm s.vm)⟩,
      ⟨g, mk, s₂, L, rfl, rfl, hqc, rfl, hL, rfl, rfl⟩, ?_⟩
    show Steps p.tables e below _ ((({ U with heap := s₂.heap, slotsUsed := s₂.slotsUsed } : State).setVm s₂.vm).setTop { g with pc := g.pc + len₂, stack := v.toList ++ g.stack })
    rw [← hs₂]
    exact hsteps
  · obtain ⟨e2, q2, q3, q4, q5, q6⟩ := id hsm
    have e3 : s₂ = ({ (U.calling g mk a).setFrames s₂.frames with heap := s₂.heap, slotsUsed := s₂.slotsUsed } : State).setVm s₂.vm := by
      have : s₂ = ({ s₂ with vm := (U.calling g mk a).vm } : State).setVm s₂.vm := rfl
      rw [e2] at this
      exact this
    have hf₂ : s₂.frames = .throwing q :: .java g :: U.frames.tail := hend
    have hW' : U.WarmedH s₂.vm := hW₂
    have hs₂ : s₂ = ((({ U with heap := s₂.heap, slotsUsed := s₂.slotsUsed } : State).setVm s₂.vm).setTop g).pushFrame (.throwing q) := by
      refine e3.trans ?_
      rw [hf₂, State.calling_eq h.top, State.setFrames_setFrames, State.pushFrame, State.frames_setTop _ hr', State.setTop_of_frames _ hr', State.setFrames_setFrames, hr]
      rfl
    have hsame : U.sameButNew ({ U with heap := s₂.heap, slotsUsed := s₂.slotsUsed } : State) L mc ms := by
      refine ⟨?_, q2, q3, q4, q5, q6⟩
      obtain ⟨t, ht, -⟩ := State.frames_cons hr
      show ({ U with heap := s₂.heap, slotsUsed := s₂.slotsUsed } : State) = { U.setFrames U.frames with heap := s₂.heap, slotsUsed := s₂.slotsUsed }
      rw [State.setFrames_self ht]
    subst hg
    refine Or.inr ⟨q, ⟨(({ U with heap := s₂.heap, slotsUsed := s₂.slotsUsed } : State).setVm s₂.vm), Ls ++ L, c0 + mc, s0 + ms⟩,
      ⟨X.admits, X.cas, X.clock, X.frames, X.room, X.hears, X.method, X.code, (X.here.setHeapUsed s₂.heap s₂.slotsUsed).setVm hW'.alike, X.tail, State.WarmedH.trans X.warmed hW', X.limits, X.bytes, X.same.trans (hsame.setVm s.vm)⟩,
      ⟨g, mk, s₂, L, E, ce, rfl, rfl, hx, hce, hcv, hcl, rfl, hL, rfl, rfl⟩, ?_⟩
    show Steps p.tables e below _ (((({ U with heap := s₂.heap, slotsUsed := s₂.slotsUsed } : State).setVm s₂.vm).setTop g).pushFrame (.throwing q))
    rw [← hs₂]
    exact hsteps
end Payer
section Calls
variable {p : Program} {l : Launch} {e : Env} {R : Room} {s : State} {m : MethodId} {args : Array Value} {below : List Frame} {meth : Method} {c : Code} {T : State} {locs : List Loc} {cells slots : Nat}
theorem vx_callV (X : Stand p l e R s m args below meth c T locs cells slots) (hexec : p.tables.exec = Jvm.exec) {own C : String} {index : Nat} {y : MethodName} {bytes : ByteArray} {maxL : Nat} {ret : Option FieldType}
    (hown : s.vm.findClass own = some m.cls) (hlink : (Cond.methodLink own index y).before args s = true) (hinst : (Cond.instanceMethod y).before args s = true) (hsel : (Cond.selects C y y).before args s = true)
    (hcode : (Cond.code y bytes maxL ret).before args s = true) (hy : y.cls ≠ "java/lang/invoke/MethodHandle" ∧ y.cls ≠ "java/lang/invoke/VarHandle")
    {W9 : Nat} {Pre : Pt → Array Value → Prop} {Post : Pt → Array Value → Option Value → Pt → Prop} {PostX : Pt → Array Value → Addr → Pt → Prop} (hK : vx_Back l R p e below s args y 3 W9 Pre Post PostX)
    {b : Addr} {cellB : Cell} (hcell : T.heap[b]? = some cellB) (hobj : cellB.vm.isStatics = false) (hcls : s.vm.findClass C = some cellB.cls)
    {g : JFrame} (hg : g.method = m) (hsize : g.locals.size = c.maxLocals) {argsL rest : List Value} (hlen : ∀ sig, parseMethodDescriptor y.desc = some sig → argsL.length = sig.parameters.length)
    (hstack : g.stack = argsL.reverse ++ .ref b :: rest) (hW : 2 * g.monitorRoom + (rest.map fun v => v.category).sum ≤ W9) (hdg : decode c.code g.pc = .ok (.invokevirtual index, 3))
    (hpre : ∀ vm₁, s.WarmedH vm₁ → Pre ⟨T.setVm vm₁, locs, cells, slots⟩ (Value.ref b :: argsL).toArray) :
    (∃ (v : Option Value) (vm₁ : Vm) (B : Pt), s.WarmedH vm₁ ∧ Stand p l e R s m args below meth c B.U B.locs B.cells B.slots ∧ Post ⟨T.setVm vm₁, locs, cells, slots⟩ (Value.ref b :: argsL).toArray v B ∧
      ∀ target, Steps p.tables e below (B.U.setTop { g with pc := g.pc + 3, stack := v.toList ++ rest }) target → Steps p.tables e below (T.setTop g) target) ∨
    (∃ (q : Addr) (vm₁ : Vm) (B : Pt), s.WarmedH vm₁ ∧ Stand p l e R s m args below meth c B.U B.locs B.cells B.slots ∧ PostX ⟨T.setVm vm₁, locs, cells, slots⟩ (Value.ref b :: argsL).toArray q B ∧
      Steps p.tables e below (T.setTop g) ((B.U.setTop { g with stack := rest }).pushFrame (.throwing q))) := by
  obtain ⟨mk, methM, hnamed, hmethM, hstM, habM⟩ := Cond.instanceMethod_spec hinst
  obtain ⟨methM', cM, hmethM', -, -, -, -, -, -, hsigM⟩ := Cond.code_spec hnamed hcode
  cases hmethM.symm.trans hmethM'
  obtain ⟨c2, r2, m2, q1, q2, q3, q4, kP, hkP, hkPi⟩ := Cond.selects_spec hsel
  cases hcls.symm.trans q1
  cases (State.methodFound?_of_named hnamed hy).symm.trans q2
  cases hnamed.symm.trans q3
  have hselP : selectMethod e.platform s.vm cellB.cls mk = .method mk := by rw [Launch.admits_selectMethod X.admits]; exact q4
  obtain ⟨vm₁, X₁, hstep₁⟩ := X.invokevirtual hexec hown hlink hnamed hmethM hstM hkP hkPi hy (a := b) (cell := cellB) hcell
    (fun z h => by rw [h] at hobj; cases hobj) hselP hmethM habM hkP hkPi (g := g) hg (argsL := argsL) (rest := rest) (hlen _ hsigM) hstack hdg
  rcases hK m meth c ⟨T.setVm vm₁, locs, cells, slots⟩ { g with stack := rest } (.invokevirtual index) mk (Value.ref b :: argsL).toArray X₁ hg hsize hdg hW (X₁.named hnamed) (hpre vm₁ X₁.warmed) with ⟨v, B, X', hpost, hsteps⟩ | ⟨q, B, X', hpost, hsteps⟩
  · exact Or.inl ⟨v, vm₁, B, X₁.warmed, X', hpost, fun target h => hstep₁ _ fun acts => by rw [doInvoke_state]; exact hsteps.trans h⟩
  · exact Or.inr ⟨q, vm₁, B, X₁.warmed, X', hpost, hstep₁ _ fun acts => by rw [doInvoke_state]; exact hsteps⟩
theorem vx_callS (X : Stand p l e R s m args below meth c T locs cells slots) (hexec : p.tables.exec = Jvm.exec) {own : String} {index : Nat} {y : MethodName} {bytes : ByteArray} {maxL : Nat} {ret : Option FieldType}
    (hown : s.vm.findClass own = some m.cls) (hlink : (Cond.methodLink own index y).before args s = true) (hstat : (Cond.static y).before args s = true) (hinit : (Cond.initialized y.cls).before args s = true)
    (hcode : (Cond.code y bytes maxL ret).before args s = true) (hy : y.cls ≠ "java/lang/invoke/MethodHandle" ∧ y.cls ≠ "java/lang/invoke/VarHandle")
    {W9 : Nat} {Pre : Pt → Array Value → Prop} {Post : Pt → Array Value → Option Value → Pt → Prop} {PostX : Pt → Array Value → Addr → Pt → Prop} (hK : vx_Back l R p e below s args y 3 W9 Pre Post PostX)
    {g : JFrame} (hg : g.method = m) (hsize : g.locals.size = c.maxLocals) {argsL rest : List Value} (hlen : ∀ sig, parseMethodDescriptor y.desc = some sig → argsL.length = sig.parameters.length)
    (hstack : g.stack = argsL.reverse ++ rest) (hW : 2 * g.monitorRoom + (rest.map fun v => v.category).sum ≤ W9) (hdg : decode c.code g.pc = .ok (.invokestatic index, 3))
    (hpre : ∀ vm₁, s.WarmedH vm₁ → Pre ⟨T.setVm vm₁, locs, cells, slots⟩ argsL.toArray) :
    (∃ (v : Option Value) (vm₁ : Vm) (B : Pt), s.WarmedH vm₁ ∧ Stand p l e R s m args below meth c B.U B.locs B.cells B.slots ∧ Post ⟨T.setVm vm₁, locs, cells, slots⟩ argsL.toArray v B ∧
      ∀ target, Steps p.tables e below (B.U.setTop { g with pc := g.pc + 3, stack := v.toList ++ rest }) target → Steps p.tables e below (T.setTop g) target) ∨
    (∃ (q : Addr) (vm₁ : Vm) (B : Pt), s.WarmedH vm₁ ∧ Stand p l e R s m args below meth c B.U B.locs B.cells B.slots ∧ PostX ⟨T.setVm vm₁, locs, cells, slots⟩ argsL.toArray q B ∧
      Steps p.tables e below (T.setTop g) ((B.U.setTop { g with stack := rest }).pushFrame (.throwing q))) := by
  obtain ⟨mk, hnamed⟩ := Cond.code_named hcode
  obtain ⟨methM, cM, hmethM, -, -, -, -, -, -, hsigM⟩ := Cond.code_spec hnamed hcode
  have hstatic : methM.isStatic = true := Cond.static_spec hnamed hmethM hstat
  obtain ⟨kP, hkP, -⟩ := className_of_methodNamed hnamed
  have hinitP : kP.init = .initialized := Cond.initialized_spec (findClass_of_methodNamed hnamed) hkP hinit
  obtain ⟨vm₁, X₁, hstep₁⟩ := X.invokestatic hexec hown hlink hnamed hmethM hstatic hkP hinitP hy (g := g) hg (argsL := argsL) (rest := rest) (hlen _ hsigM) hstack hdg
  rcases hK m meth c ⟨T.setVm vm₁, locs, cells, slots⟩ { g with stack := rest } (.invokestatic index) mk argsL.toArray X₁ hg hsize hdg hW (X₁.named hnamed) (hpre vm₁ X₁.warmed) with ⟨v, B, X', hpost, hsteps⟩ | ⟨q, B, X', hpost, hsteps⟩
  · exact Or.inl ⟨v, vm₁, B, X₁.warmed, X', hpost, fun target h => hstep₁ _ fun acts => by rw [doInvoke_state]; exact hsteps.trans h⟩
  · exact Or.inr ⟨q, vm₁, B, X₁.warmed, X', hpost, hstep₁ _ fun acts => by rw [doInvoke_state]; exact hsteps⟩
end Calls
theorem vx_cls {s : State} {T : State} {vm₁ : Vm} {E : String} {k : ClassId} (hW : s.WarmedH vm₁) (h : (T.setVm vm₁).vm.findClass E = some k) : s.vm.findClass E = some k := by
  have h1 : vm₁.findClass E = some k := h
  rw [hW.alike.findClass] at h1
  exact h1
/-- the method's frame g, with q thrown over it -/
def vx_W (p : Program) (l : Launch) (e : Env) (R : Room) (s : State) (m : MethodId) (args : Array Value) (below : List Frame) (meth : Method) (c : Code) (H : Heap) (locs : List Loc) (cells slots : Nat) (Q : State → Prop) (g : JFrame) (q : Addr) : Prop :=
  ∀ T : State, T.heap = H → Stand p l e R s m args below meth c T locs cells slots → ∃ t, Steps p.tables e below ((T.setTop g).pushFrame (.throwing q)) t ∧ Q t
def vx_Run (p : Program) (l : Launch) (e : Env) (R : Room) (s : State) (m : MethodId) (args : Array Value) (below : List Frame) (meth : Method) (c : Code) (H : Heap) (locs : List Loc) (cells slots mc ms : Nat) (g : JFrame) (rest : List Value) (Qa : State → Outcome → State → Prop) (XC : String → State → State → Prop) (free : Addr → Prop) : Prop :=
  ∀ T : State, T.heap = H → Stand p l e R s m args below meth c T locs cells slots →
    (∃ (v : Option Value) (st₀ t T' : State) (L : List Loc), st₀.heap = H ∧ Stand p l e R s m args below meth c T' (locs ++ L) (cells + mc) (slots + ms) ∧ (∀ q ∈ L, free q.base) ∧ T'.heap = t.heap ∧ T'.vm = t.vm ∧ Qa st₀ (.returned v) t ∧
      Goes p e below T g T' { g with pc := g.pc + 3, stack := v.toList ++ rest }) ∨
    (∃ (q : Addr) (st₀ t T' : State) (L : List Loc) (E : String) (ce : Cell), st₀.heap = H ∧ Stand p l e R s m args below meth c T' (locs ++ L) (cells + mc) (slots + ms) ∧ (∀ z ∈ L, free z.base) ∧ T'.heap = t.heap ∧ T'.vm = t.vm ∧ XC E st₀ t ∧ t.heap[q]? = some ce ∧ ce.vm = .none ∧ s.vm.findClass E = some ce.cls ∧
      Steps p.tables e below (T.setTop g) ((T'.setTop { g with stack := rest }).pushFrame (.throwing q)))
def vx_X {S : Type} (px : S → Prop) (B : String → S → State → Prop) (A : Nat → Prop) : String → State → State → Prop := fun E st t => ∃ u : S, px u ∧ B E u t ∧ va_F A st t
section Runs
variable {p : Program} {l : Launch} {e : Env} {R : Room} {s : State} {m : MethodId} {args : Array Value} {below : List Frame} {meth : Method} {c : Code} {H : Heap} {locs : List Loc} {cells slots : Nat}
variable {y : MethodName} {bytes cc : ByteArray} {maxL nL mc ms n index : Nat} {ret : Option FieldType} {ws : List Cond} {rm : Room} {Pc : Array Value → State → Prop} {Qc : Array Value → State → Outcome → State → Prop} {XC : String → State → State → Prop} {free : Addr → Prop} {Ts : List Cond} {own C : String} {b : Addr} {As rest : List Value} {g : JFrame}
theorem vx_callBack (cb : CallB R s args own index y bytes maxL ret ws rm mc ms n) (hM : vx_Met l y ws rm Pc Qc XC mc ms free) (hbl : FrameBlind Pc) : vx_Back l R p e below s args y 3 8 (PreOf R mc ms Pc) (PostOf Qc mc ms free) (vx_Post XC mc ms free) := by
  obtain ⟨hrc, hrs, hfr, hlo, hws, hcw, -, hini, -⟩ := cb
  exact vx_back (bytes := bytes) (maxL := maxL) (ret := ret) hM hbl hrc hrs hfr hlo hws hcw (fun a' U hW => word_at hW (Or.inl (by first | rfl | simp [Cond.onTables, Cond.keeps, Cond.steady])) hini)
theorem vx_runV (S : CallFix p m c cc nL s args Ts own) (hM : vx_Met l y ws rm Pc Qc XC mc ms free) (cw : CallW R s args own C index y bytes maxL ret ws rm mc ms n) (hp : PreV s H C b Pc As)
    (hg : g.method = m) (hn : As.length = n) (hsize : g.locals.size = nL) (hstack : g.stack = As.reverse ++ .ref b :: rest) (hW : 2 * g.monitorRoom + (rest.map fun v => v.category).sum ≤ 8) (hdg : decode cc g.pc = .ok (.invokevirtual index, 3)) (hf : cells + mc ≤ R.cells ∧ slots + ms ≤ R.slots) :
    vx_Run p l e R s m args below meth c H locs cells slots mc ms g rest (Qc (Value.ref b :: As).toArray) XC free := by
  have hK : vx_Back l R p e below s args y 3 8 (PreOf R mc ms Pc) (PostOf Qc mc ms free) (vx_Post XC mc ms free) := vx_callBack cw.1 hM hp.1
  obtain ⟨⟨-, -, -, -, -, -, hcode, -, hy, hlen, hl⟩, hin, hse⟩ := cw
  obtain ⟨hx, hb, hml, ho, -⟩ := S
  obtain ⟨-, ⟨cellB, hcB, hoB, hclB⟩, hPc⟩ := hp
  intro T hT X
  rcases vx_callV X hx (C := C) (bytes := bytes) (maxL := maxL) (ret := ret) ho hl hin hse hcode hy hK (by rw [hT]; exact hcB) hoB hclB hg (hsize.trans hml.symm) (argsL := As) (rest := rest) (fun sig h => hn.trans (hlen sig h)) hstack hW (by rw [hb]; exact hdg)
    (fun vm₁ hW₁ => ⟨hf.1, hf.2, hPc (T.setVm vm₁) hT hW₁⟩) with ⟨v, vm₁, ⟨U', l2, c2, s2⟩, hW₁, X', ⟨g', mk, t, L, e1, e2, hq, h1, hL, h2, h3⟩, st⟩ | ⟨q, vm₁, ⟨U', l2, c2, s2⟩, hW₁, X', ⟨g', mk, t, L, E, ce, e1, e2, hq, hce, hcv, hcl, h1, hL, h2, h3⟩, st⟩
  · dsimp only [Pt.U, Pt.locs, Pt.cells, Pt.slots] at X' e1 e2 h1 h2 h3 st
    subst h1; subst h2; subst h3
    exact Or.inl ⟨v, (T.setVm vm₁).calling g' mk (Value.ref b :: As).toArray, t, U', L, hT, X', hL, e1, e2, hq, st⟩
  · dsimp only [Pt.U, Pt.locs, Pt.cells, Pt.slots] at X' e1 e2 h1 h2 h3 st hcl
    subst h1; subst h2; subst h3
    exact Or.inr ⟨q, (T.setVm vm₁).calling g' mk (Value.ref b :: As).toArray, t, U', L, E, ce, hT, X', hL, e1, e2, hq, hce, hcv, vx_cls hW₁ hcl, st⟩
theorem vx_runS (S : CallFix p m c cc nL s args Ts own) (hM : vx_Met l y ws rm Pc Qc XC mc ms free) (cw : CallB R s args own index y bytes maxL ret ws rm mc ms n ∧ (Cond.static y).before args s = true) (hp : PreS s H Pc As)
    (hg : g.method = m) (hn : As.length = n) (hsize : g.locals.size = nL) (hstack : g.stack = As.reverse ++ rest) (hW : 2 * g.monitorRoom + (rest.map fun v => v.category).sum ≤ 8) (hdg : decode cc g.pc = .ok (.invokestatic index, 3)) (hf : cells + mc ≤ R.cells ∧ slots + ms ≤ R.slots) :
    vx_Run p l e R s m args below meth c H locs cells slots mc ms g rest (Qc As.toArray) XC free := by
  have hK : vx_Back l R p e below s args y 3 8 (PreOf R mc ms Pc) (PostOf Qc mc ms free) (vx_Post XC mc ms free) := vx_callBack cw.1 hM hp.1
  obtain ⟨⟨-, -, -, -, -, -, hcode, hini, hy, hlen, hl⟩, hstt⟩ := cw
  obtain ⟨hx, hb, hml, ho, -⟩ := S
  intro T hT X
  rcases vx_callS X hx (bytes := bytes) (maxL := maxL) (ret := ret) ho hl hstt hini hcode hy hK hg (hsize.trans hml.symm) (argsL := As) (rest := rest) (fun sig h => hn.trans (hlen sig h)) hstack hW (by rw [hb]; exact hdg)
    (fun vm₁ hW₁ => ⟨hf.1, hf.2, hp.2 (T.setVm vm₁) hT hW₁⟩) with ⟨v, vm₁, ⟨U', l2, c2, s2⟩, hW₁, X', ⟨g', mk, t, L, e1, e2, hq, h1, hL, h2, h3⟩, st⟩ | ⟨q, vm₁, ⟨U', l2, c2, s2⟩, hW₁, X', ⟨g', mk, t, L, E, ce, e1, e2, hq, hce, hcv, hcl, h1, hL, h2, h3⟩, st⟩
  · dsimp only [Pt.U, Pt.locs, Pt.cells, Pt.slots] at X' e1 e2 h1 h2 h3 st
    subst h1; subst h2; subst h3
    exact Or.inl ⟨v, (T.setVm vm₁).calling g' mk As.toArray, t, U', L, hT, X', hL, e1, e2, hq, st⟩
  · dsimp only [Pt.U, Pt.locs, Pt.cells, Pt.slots] at X' e1 e2 h1 h2 h3 st hcl
    subst h1; subst h2; subst h3
    exact Or.inr ⟨q, (T.setVm vm₁).calling g' mk As.toArray, t, U', L, E, ce, hT, X', hL, e1, e2, hq, hce, hcv, vx_cls hW₁ hcl, st⟩
end Runs
section Rows
variable {p : Program} {l : Launch} {e : Env} {R : Room} {s : State} {m : MethodId} {args : Array Value} {below : List Frame} {meth : Method} {c : Code} {H : Heap} {locs : List Loc} {cells slots : Nat} {Q : State → Prop}
variable {mc ms : Nat} {free : Addr → Prop} {A0 A1 : Nat → Prop} {H0 : Heap} {a : Array Value} {pc : Nat} {ls : Array Slot} {st0 rest : List Value}
theorem vx_keep {st₀ t T' : State} {L : List Loc} (h0 : st₀.heap = H) (e1 : T'.heap = t.heap) (hS : va_S A0 H0 H locs) (hA : ∀ q, q < H.size → A1 q → A0 q) (hf : ∀ q, free q → A0 q) (hL : ∀ q ∈ L, free q.base) (hF : va_F A1 st₀ t) :
    H.size ≤ T'.heap.size ∧ (∀ q : Nat, q < H.size → ¬ A1 q → T'.heap[q]? = H[q]?) ∧ va_S A0 H0 T'.heap (locs ++ L) := by
  obtain ⟨hz, hk⟩ := hF
  rw [h0] at hz hk
  exact ⟨by rw [e1]; exact hz, fun q h1 h2 => by rw [e1]; exact hk q h1 h2,
    ⟨Nat.le_trans hS.1 (by rw [e1]; exact hz), fun q h1 h2 => by rw [e1, hk q (Nat.lt_of_lt_of_le h1 hS.1) (fun z => h2 (hA q (Nat.lt_of_lt_of_le h1 hS.1) z))]; exact hS.2.1 q h1 h2, fun q hq => by
      rcases List.mem_append.mp hq with h | h
      · exact hS.2.2 q h
      · exact hf _ (hL q h)⟩⟩
theorem vx_calli {S SX : Type} {post : Int32 → S → Prop} {px : SX → Prop} {B : S → State → Prop} {BX : String → SX → State → Prop} {AX : Nat → Prop} (hr : vx_Run p l e R s m args below meth c H locs cells slots mc ms (F0 m pc ls st0) rest (va_Qi post B A1 a) (vx_X px BX AX) free) (hS : va_S A0 H0 H locs) (hA : ∀ q, q < H.size → A1 q → A0 q) (hf : ∀ q, free q → A0 q) (hAX : ∀ q, q < H.size → AX q → A0 q)
    (kx : ∀ (E : String) (ce : Cell) (q9 : Addr) (u : SX) (t : State) (H1 : Heap) (locs1 : List Loc), t.heap = H1 → s.vm.Alike t.vm → px u → BX E u t → H.size ≤ H1.size → (∀ q : Nat, q < H.size → ¬ AX q → H1[q]? = H[q]?) → va_S A0 H0 H1 locs1 → H1[q9]? = some ce → ce.vm = .none → s.vm.findClass E = some ce.cls → vx_W p l e R s m args below meth c H1 locs1 (cells + mc) (slots + ms) Q (F0 m pc ls rest) q9)
    (kk : ∀ (r : Int32) (u : S) (t : State) (H1 : Heap) (locs1 : List Loc), t.heap = H1 → s.vm.Alike t.vm → post r u → B u t → H.size ≤ H1.size → (∀ q : Nat, q < H.size → ¬ A1 q → H1[q]? = H[q]?) → va_S A0 H0 H1 locs1 → W p l e R s m args below meth c H1 locs1 (cells + mc) (slots + ms) Q (F0 m (pc + 3) ls (.int r :: rest))) : W p l e R s m args below meth c H locs cells slots Q (F0 m pc ls st0) := by
  intro T hT X
  rcases hr T hT X with ⟨v, st₀, t, T', L, h0, X', hL, e1, e2, ⟨⟨r, u, hv, hp, hb⟩, hF⟩, st⟩ | ⟨q, st₀, t, T', L, E, ce, h0, X', hL, e1, e2, ⟨u, hp, hb, hF⟩, hce, hcv, hcl, st⟩
  · cases hv
    obtain ⟨k1, k2, k3⟩ := vx_keep h0 e1 hS hA hf hL hF
    obtain ⟨t2, a1, b1⟩ := kk r u t T'.heap (locs ++ L) e1.symm (by rw [← e2]; exact X'.warmed.alike) hp hb k1 k2 k3 T' rfl X'
    exact ⟨t2, st t2 a1, b1⟩
  · obtain ⟨k1, k2, k3⟩ := vx_keep h0 e1 hS hAX hf hL hF
    obtain ⟨t2, a1, b1⟩ := kx E ce q u t T'.heap (locs ++ L) e1.symm (by rw [← e2]; exact X'.warmed.alike) hp hb k1 k2 k3 (by rw [e1]; exact hce) hcv hcl T' rfl X'
    exact ⟨t2, st.trans a1, b1⟩
theorem vx_calll {S SX : Type} {post : Int64 → S → Prop} {px : SX → Prop} {B : S → State → Prop} {BX : String → SX → State → Prop} {AX : Nat → Prop} (hr : vx_Run p l e R s m args below meth c H locs cells slots mc ms (F0 m pc ls st0) rest (va_Ql post B A1 a) (vx_X px BX AX) free) (hS : va_S A0 H0 H locs) (hA : ∀ q, q < H.size → A1 q → A0 q) (hf : ∀ q, free q → A0 q) (hAX : ∀ q, q < H.size → AX q → A0 q)
    (kx : ∀ (E : String) (ce : Cell) (q9 : Addr) (u : SX) (t : State) (H1 : Heap) (locs1 : List Loc), t.heap = H1 → s.vm.Alike t.vm → px u → BX E u t → H.size ≤ H1.size → (∀ q : Nat, q < H.size → ¬ AX q → H1[q]? = H[q]?) → va_S A0 H0 H1 locs1 → H1[q9]? = some ce → ce.vm = .none → s.vm.findClass E = some ce.cls → vx_W p l e R s m args below meth c H1 locs1 (cells + mc) (slots + ms) Q (F0 m pc ls rest) q9)
    (kk : ∀ (r : Int64) (u : S) (t : State) (H1 : Heap) (locs1 : List Loc), t.heap = H1 → s.vm.Alike t.vm → post r u → B u t → H.size ≤ H1.size → (∀ q : Nat, q < H.size → ¬ A1 q → H1[q]? = H[q]?) → va_S A0 H0 H1 locs1 → W p l e R s m args below meth c H1 locs1 (cells + mc) (slots + ms) Q (F0 m (pc + 3) ls (.long r :: rest))) : W p l e R s m args below meth c H locs cells slots Q (F0 m pc ls st0) := by
  intro T hT X
  rcases hr T hT X with ⟨v, st₀, t, T', L, h0, X', hL, e1, e2, ⟨⟨r, u, hv, hp, hb⟩, hF⟩, st⟩ | ⟨q, st₀, t, T', L, E, ce, h0, X', hL, e1, e2, ⟨u, hp, hb, hF⟩, hce, hcv, hcl, st⟩
  · cases hv
    obtain ⟨k1, k2, k3⟩ := vx_keep h0 e1 hS hA hf hL hF
    obtain ⟨t2, a1, b1⟩ := kk r u t T'.heap (locs ++ L) e1.symm (by rw [← e2]; exact X'.warmed.alike) hp hb k1 k2 k3 T' rfl X'
    exact ⟨t2, st t2 a1, b1⟩
  · obtain ⟨k1, k2, k3⟩ := vx_keep h0 e1 hS hAX hf hL hF
    obtain ⟨t2, a1, b1⟩ := kx E ce q u t T'.heap (locs ++ L) e1.symm (by rw [← e2]; exact X'.warmed.alike) hp hb k1 k2 k3 (by rw [e1]; exact hce) hcv hcl T' rfl X'
    exact ⟨t2, st.trans a1, b1⟩
theorem vx_callf {S SX : Type} {post : UInt32 → S → Prop} {px : SX → Prop} {B : S → State → Prop} {BX : String → SX → State → Prop} {AX : Nat → Prop} (hr : vx_Run p l e R s m args below meth c H locs cells slots mc ms (F0 m pc ls st0) rest (va_Qf post B A1 a) (vx_X px BX AX) free) (hS : va_S A0 H0 H locs) (hA : ∀ q, q < H.size → A1 q → A0 q) (hf : ∀ q, free q → A0 q) (hAX : ∀ q, q < H.size → AX q → A0 q)
    (kx : ∀ (E : String) (ce : Cell) (q9 : Addr) (u : SX) (t : State) (H1 : Heap) (locs1 : List Loc), t.heap = H1 → s.vm.Alike t.vm → px u → BX E u t → H.size ≤ H1.size → (∀ q : Nat, q < H.size → ¬ AX q → H1[q]? = H[q]?) → va_S A0 H0 H1 locs1 → H1[q9]? = some ce → ce.vm = .none → s.vm.findClass E = some ce.cls → vx_W p l e R s m args below meth c H1 locs1 (cells + mc) (slots + ms) Q (F0 m pc ls rest) q9)
    (kk : ∀ (r : UInt32) (u : S) (t : State) (H1 : Heap) (locs1 : List Loc), t.heap = H1 → s.vm.Alike t.vm → post r u → B u t → H.size ≤ H1.size → (∀ q : Nat, q < H.size → ¬ A1 q → H1[q]? = H[q]?) → va_S A0 H0 H1 locs1 → W p l e R s m args below meth c H1 locs1 (cells + mc) (slots + ms) Q (F0 m (pc + 3) ls (.float r :: rest))) : W p l e R s m args below meth c H locs cells slots Q (F0 m pc ls st0) := by
  intro T hT X
  rcases hr T hT X with ⟨v, st₀, t, T', L, h0, X', hL, e1, e2, ⟨⟨r, u, hv, hp, hb⟩, hF⟩, st⟩ | ⟨q, st₀, t, T', L, E, ce, h0, X', hL, e1, e2, ⟨u, hp, hb, hF⟩, hce, hcv, hcl, st⟩
  · cases hv
    obtain ⟨k1, k2, k3⟩ := vx_keep h0 e1 hS hA hf hL hF
    obtain ⟨t2, a1, b1⟩ := kk r u t T'.heap (locs ++ L) e1.symm (by rw [← e2]; exact X'.warmed.alike) hp hb k1 k2 k3 T' rfl X'
    exact ⟨t2, st t2 a1, b1⟩
  · obtain ⟨k1, k2, k3⟩ := vx_keep h0 e1 hS hAX hf hL hF
    obtain ⟨t2, a1, b1⟩ := kx E ce q u t T'.heap (locs ++ L) e1.symm (by rw [← e2]; exact X'.warmed.alike) hp hb k1 k2 k3 (by rw [e1]; exact hce) hcv hcl T' rfl X'
    exact ⟨t2, st.trans a1, b1⟩
theorem vx_calld {S SX : Type} {post : UInt64 → S → Prop} {px : SX → Prop} {B : S → State → Prop} {BX : String → SX → State → Prop} {AX : Nat → Prop} (hr : vx_Run p l e R s m args below meth c H locs cells slots mc ms (F0 m pc ls st0) rest (va_Qd post B A1 a) (vx_X px BX AX) free) (hS : va_S A0 H0 H locs) (hA : ∀ q, q < H.size → A1 q → A0 q) (hf : ∀ q, free q → A0 q) (hAX : ∀ q, q < H.size → AX q → A0 q)
    (kx : ∀ (E : String) (ce : Cell) (q9 : Addr) (u : SX) (t : State) (H1 : Heap) (locs1 : List Loc), t.heap = H1 → s.vm.Alike t.vm → px u → BX E u t → H.size ≤ H1.size → (∀ q : Nat, q < H.size → ¬ AX q → H1[q]? = H[q]?) → va_S A0 H0 H1 locs1 → H1[q9]? = some ce → ce.vm = .none → s.vm.findClass E = some ce.cls → vx_W p l e R s m args below meth c H1 locs1 (cells + mc) (slots + ms) Q (F0 m pc ls rest) q9)
    (kk : ∀ (r : UInt64) (u : S) (t : State) (H1 : Heap) (locs1 : List Loc), t.heap = H1 → s.vm.Alike t.vm → post r u → B u t → H.size ≤ H1.size → (∀ q : Nat, q < H.size → ¬ A1 q → H1[q]? = H[q]?) → va_S A0 H0 H1 locs1 → W p l e R s m args below meth c H1 locs1 (cells + mc) (slots + ms) Q (F0 m (pc + 3) ls (.double r :: rest))) : W p l e R s m args below meth c H locs cells slots Q (F0 m pc ls st0) := by
  intro T hT X
  rcases hr T hT X with ⟨v, st₀, t, T', L, h0, X', hL, e1, e2, ⟨⟨r, u, hv, hp, hb⟩, hF⟩, st⟩ | ⟨q, st₀, t, T', L, E, ce, h0, X', hL, e1, e2, ⟨u, hp, hb, hF⟩, hce, hcv, hcl, st⟩
  · cases hv
    obtain ⟨k1, k2, k3⟩ := vx_keep h0 e1 hS hA hf hL hF
    obtain ⟨t2, a1, b1⟩ := kk r u t T'.heap (locs ++ L) e1.symm (by rw [← e2]; exact X'.warmed.alike) hp hb k1 k2 k3 T' rfl X'
    exact ⟨t2, st t2 a1, b1⟩
  · obtain ⟨k1, k2, k3⟩ := vx_keep h0 e1 hS hAX hf hL hF
    obtain ⟨t2, a1, b1⟩ := kx E ce q u t T'.heap (locs ++ L) e1.symm (by rw [← e2]; exact X'.warmed.alike) hp hb k1 k2 k3 (by rw [e1]; exact hce) hcv hcl T' rfl X'
    exact ⟨t2, st.trans a1, b1⟩
theorem vx_callv {S SX : Type} {post : S → Prop} {px : SX → Prop} {B : S → State → Prop} {BX : String → SX → State → Prop} {AX : Nat → Prop} (hr : vx_Run p l e R s m args below meth c H locs cells slots mc ms (F0 m pc ls st0) rest (va_Qv post B A1 a) (vx_X px BX AX) free) (hS : va_S A0 H0 H locs) (hA : ∀ q, q < H.size → A1 q → A0 q) (hf : ∀ q, free q → A0 q) (hAX : ∀ q, q < H.size → AX q → A0 q)
    (kx : ∀ (E : String) (ce : Cell) (q9 : Addr) (u : SX) (t : State) (H1 : Heap) (locs1 : List Loc), t.heap = H1 → s.vm.Alike t.vm → px u → BX E u t → H.size ≤ H1.size → (∀ q : Nat, q < H.size → ¬ AX q → H1[q]? = H[q]?) → va_S A0 H0 H1 locs1 → H1[q9]? = some ce → ce.vm = .none → s.vm.findClass E = some ce.cls → vx_W p l e R s m args below meth c H1 locs1 (cells + mc) (slots + ms) Q (F0 m pc ls rest) q9)
    (kk : ∀ (u : S) (t : State) (H1 : Heap) (locs1 : List Loc), t.heap = H1 → s.vm.Alike t.vm → post u → B u t → H.size ≤ H1.size → (∀ q : Nat, q < H.size → ¬ A1 q → H1[q]? = H[q]?) → va_S A0 H0 H1 locs1 → W p l e R s m args below meth c H1 locs1 (cells + mc) (slots + ms) Q (F0 m (pc + 3) ls (rest))) : W p l e R s m args below meth c H locs cells slots Q (F0 m pc ls st0) := by
  intro T hT X
  rcases hr T hT X with ⟨v, st₀, t, T', L, h0, X', hL, e1, e2, ⟨⟨u, hv, hp, hb⟩, hF⟩, st⟩ | ⟨q, st₀, t, T', L, E, ce, h0, X', hL, e1, e2, ⟨u, hp, hb, hF⟩, hce, hcv, hcl, st⟩
  · cases hv
    obtain ⟨k1, k2, k3⟩ := vx_keep h0 e1 hS hA hf hL hF
    obtain ⟨t2, a1, b1⟩ := kk u t T'.heap (locs ++ L) e1.symm (by rw [← e2]; exact X'.warmed.alike) hp hb k1 k2 k3 T' rfl X'
    exact ⟨t2, st t2 a1, b1⟩
  · obtain ⟨k1, k2, k3⟩ := vx_keep h0 e1 hS hAX hf hL hF
    obtain ⟨t2, a1, b1⟩ := kx E ce q u t T'.heap (locs ++ L) e1.symm (by rw [← e2]; exact X'.warmed.alike) hp hb k1 k2 k3 (by rw [e1]; exact hce) hcv hcl T' rfl X'
    exact ⟨t2, st.trans a1, b1⟩
/-- caught by the row x of this method's table; the rows ahead don't take it -/
theorem vx_catch {own name : String} {E : String} {ce : Cell} {q : Addr} (hown : s.vm.findClass own = some m.cls) (pre : List ExceptionTableEntry) (x : ExceptionTableEntry) (suf : List ExceptionTableEntry) (hsplit : c.exceptionTable.toList = pre ++ x :: suf)
    (hpass : ∀ z ∈ pre, covers z pc = false ∨ (z.catchType ≠ 0 ∧ ∃ nm : String, (Cond.classLink own z.catchType nm).before args s = true ∧ va_Nc E nm s)) (hx : covers x pc = true) (h0 : x.catchType ≠ 0)
    (hlink : (Cond.classLink own x.catchType name).before args s = true) (hcast : (Cond.castable E name).before args s = true) (hcell : H[q]? = some ce) (hv : ce.vm = .none) (hcl : s.vm.findClass E = some ce.cls)
    (kk : W p l e R s m args below meth c H locs cells slots Q (F0 m x.handlerPc ls [.ref q])) : vx_W p l e R s m args below meth c H locs cells slots Q (F0 m pc ls rest) q := by
  intro T hT X
  have hpl : e.platform.magicAccessors = ({} : Platform).magicAccessors := by rw [X.admits.platform]
  obtain ⟨c3, c4, hc3, hc4, hasg⟩ := Cond.castable_spec hcast
  cases Option.some.inj (hc3.symm.trans hcl)
  obtain ⟨c5, hc5, hcl5⟩ := Cond.classLink_spec hown hlink e.platform hpl
  cases Option.some.inj (hc4.symm.trans hc5)
  obtain ⟨vm', X', st⟩ := X.thenCaughtThrough q (g := F0 m pc ls rest) rfl (Steps.refl _) (by rw [hT]; exact hcell) (by rw [hv]; rfl) (by obtain ⟨k9, h9, -⟩ := Vm.findClass_spec hcl; exact ⟨k9, h9⟩) pre x suf hsplit
    (fun z hz => by
      rcases hpass z hz with h | ⟨hz0, nm, hl1, hn1⟩
      · exact Or.inl h
      · obtain ⟨c6, hc6, hcl6⟩ := Cond.classLink_spec hown hl1 e.platform hpl
        obtain ⟨a8, b8, h1, h2, h3⟩ := hn1
        cases Option.some.inj (h1.symm.trans hcl)
        cases Option.some.inj (h2.symm.trans hc6)
        exact Or.inr ⟨hz0, _, hcl6, h3⟩) hx (Or.inr ⟨h0, c4, hcl5, hasg⟩)
  obtain ⟨t, a1, b1⟩ := kk (T.setVm vm') hT X'
  exact ⟨t, st.trans a1, b1⟩
end Rows
section Ends
variable {p : Program} {l : Launch} {e : Env} {R : Room} {s : State} {m : MethodId} {args : Array Value} {below : List Frame} {meth : Method} {c : Code} {H : Heap} {locs : List Loc} {cells slots : Nat} {Q : State → Prop}
variable {mc ms : Nat} {free : Addr → Prop} {A0 A1 : Nat → Prop} {H0 : Heap} {a : Array Value} {ls : Array Slot} {st0 rest : List Value}
variable {Qc : Array Value → State → Outcome → State → Prop} {XC : String → State → State → Prop}
/-- what a body that may throw owes at its end -/
def vx_MQ (below : List Frame) (Qc : Array Value → State → Outcome → State → Prop) (XC : String → State → State → Prop) (a : Array Value) (s : State) (mc ms : Nat) (free : Addr → Prop) : State → Prop := fun t =>
  ∃ o, t.status = .running ∧ Ended t below o ∧ vx_Q Qc XC mc ms free a s o t
theorem vx_ret {g : JFrame} {mc ms : Nat} (k : W p l e R s m args below meth c H locs cells slots (MQ below Qc args s mc ms free) g) : W p l e R s m args below meth c H locs cells slots (vx_MQ below Qc XC args s mc ms free) g := by
  intro T hT X
  obtain ⟨t, a1, o, b1, b2, b3, b4⟩ := k T hT X
  exact ⟨t, a1, o, b1, b2, Or.inl ⟨b3, b4⟩⟩
/-- not caught here: it goes on to the caller -/
theorem vx_widen {g : JFrame} {q : Addr} {k n : Nat} (h1 : cells ≤ k) (h2 : slots ≤ n) (kk : vx_W p l e R s m args below meth c H locs k n Q g q) : vx_W p l e R s m args below meth c H locs cells slots Q g q := fun T hT X => kk T hT (stand_widen X h1 h2)
theorem vx_out {pc : Nat} {E : String} {ce : Cell} {q : Addr} {mc ms : Nat} (hout : ∀ x ∈ c.exceptionTable.toList, covers x pc = false) (hlocks : meth.locks = false) (hcell : H[q]? = some ce) (hv : ce.vm = .none) (hcl : s.vm.findClass E = some ce.cls)
    (hx : ∀ t : State, t.heap = H → s.vm.Alike t.vm → XC E s t) (hf : ∀ z ∈ locs, free z.base) (hc : cells ≤ mc) (hs : slots ≤ ms) :
    vx_W p l e R s m args below meth c H locs cells slots (vx_MQ below Qc XC args s mc ms free) (F0 m pc ls rest) q := by
  intro T hT X
  obtain ⟨st1, hrun, hend, hW, hsm⟩ := X.leaveThrown q (g := F0 m pc ls rest) rfl rfl rfl hout hlocks
  have hcell9 : (T.setFrames (.throwing q :: below)).heap[q]? = some ce := by
    show T.heap[q]? = some ce
    rw [hT]; exact hcell
  exact ⟨_, st1, .threw q, hrun, hend, Or.inr ⟨q, rfl, E, ce, locs, hx _ hT hW.alike, hcell9, hv, hcl, hW, hsm.mono hc hs, hf⟩⟩
theorem vx_frame {U : State} {k n : Nat} (h : s.sameButNew ({ U with vm := s.vm } : State) locs k n) : s.heap.size ≤ U.heap.size ∧ ∀ q : Nat, q < s.heap.size → (∀ z ∈ locs, z.base ≠ q) → U.heap[q]? = s.heap[q]? := by
  obtain ⟨-, h2, -, -, -, h6⟩ := h
  refine ⟨h2, fun q hq hz => ?_⟩
  obtain ⟨c9, e1, e2, e3, e4⟩ := h6 q _ (Array.getElem?_eq_getElem hq)
  have hs : c9.slots = (s.heap[q]).slots := Array.ext_getElem? fun i => e4 i fun hm => hz _ hm rfl
  have h9 : c9 = s.heap[q] := by
    rw [hs] at e2
    exact e2
  have e5 : U.heap[q]? = some c9 := e1
  rw [e5, h9, Array.getElem?_eq_getElem hq]
/-- the words of a throw but the four that speak of the heap -/
def vx_no (w : Cond) : Bool := decide (w ≠ .isRef (.static Bundle.tN "UNASSIGNED_STACK" Bundle.steD)) && decide (w ≠ .isRef (.static Bundle.tN "SUPPRESSED_SENTINEL" Bundle.listD)) && decide (w ≠ .laysStatic Bundle.tN "UNASSIGNED_STACK" Bundle.steD) && decide (w ≠ .laysStatic Bundle.tN "SUPPRESSED_SENTINEL" Bundle.listD)
def vx_at0 (own : String) (ic : Nat) (X : String) (names : List String) : List Cond := (Bundle.ownAtoms0 own ic X names).filter vx_no
def vx_atS (own : String) (ic : Nat) (X : String) (names : List String) : List Cond := (Bundle.ownAtoms own ic X names).filter vx_no
/-- a word that the tables alone decide, or a good one -/
def vx_ot (w : Cond) : Bool := w.onTables || goodWord w
theorem vx_ot_at {args a' : Array Value} {s U : State} {w : Cond} (hW : s.WarmedH U.vm) (hvm : s.vm = U.vm) (hg : vx_ot w = true) (h : w.before args s = true) : w.before a' U = true := by
  simp only [vx_ot, Bool.or_eq_true] at hg
  rcases hg with hg | hg
  · exact va_tabs hg hvm h
  · exact word_at hW (good_of_word hg) h
/-- a list's words: the good ones out of the method's own list, the others by premises of their own -/
theorem vx_hat {args : Array Value} {s : State} {L B : List Cond} (h1 : ∀ w ∈ L.filter goodWord, w.before args s = true) (h2 : ∀ w ∈ L.filter (fun w => !goodWord w), w ∈ B) (h3 : ∀ w ∈ B, w.before args s = true) : ∀ w ∈ L, w.before args s = true := by
  intro w hw
  by_cases g : goodWord w = true
  · exact h1 w (List.mem_filter.mpr ⟨hw, g⟩)
  · refine h3 w (h2 w (List.mem_filter.mpr ⟨hw, ?_⟩))
    show (!goodWord w) = true
    cases hgw : goodWord w
    · rfl
    · exact absurd hgw g
theorem vx_c {args : Array Value} {s : State} {w : Cond} {B : List Cond} (h : w.before args s = true) (t : ∀ w ∈ B, w.before args s = true) : ∀ w' ∈ w :: B, w'.before args s = true := fun w' h' => (List.mem_cons.mp h').elim (fun e => by rw [e]; exact h) (t w')
theorem vx_n {args : Array Value} {s : State} : ∀ w ∈ ([] : List Cond), w.before args s = true := fun _ h => nomatch h
theorem vx_own {args : Array Value} {s : State} {L : List Cond} (h1 : ∀ w ∈ L.filter vx_no, w.before args s = true)
    (hU : (Cond.isRef (.static Bundle.tN "UNASSIGNED_STACK" Bundle.steD)).before args s = true) (hN : (Cond.isRef (.static Bundle.tN "SUPPRESSED_SENTINEL" Bundle.listD)).before args s = true)
    (lU : (Cond.laysStatic Bundle.tN "UNASSIGNED_STACK" Bundle.steD).before args s = true) (lN : (Cond.laysStatic Bundle.tN "SUPPRESSED_SENTINEL" Bundle.listD).before args s = true) : ∀ w ∈ L, w.before args s = true := by
  intro w hw
  by_cases e1 : w = .isRef (.static Bundle.tN "UNASSIGNED_STACK" Bundle.steD)
  · rw [e1]; exact hU
  · by_cases e2 : w = .isRef (.static Bundle.tN "SUPPRESSED_SENTINEL" Bundle.listD)
    · rw [e2]; exact hN
    · by_cases e3 : w = .laysStatic Bundle.tN "UNASSIGNED_STACK" Bundle.steD
      · rw [e3]; exact lU
      · by_cases e4 : w = .laysStatic Bundle.tN "SUPPRESSED_SENTINEL" Bundle.listD
        · rw [e4]; exact lN
        · exact h1 w (List.mem_filter.mpr ⟨hw, by unfold vx_no; rw [decide_eq_true e1, decide_eq_true e2, decide_eq_true e3, decide_eq_true e4]; rfl⟩)
/-- where a static field lies, its class's statics cell in H -/
def vx_L (C n d : String) (A : Nat → Prop) (U : State) (H : Heap) : Prop := ∃ (c : ClassId) (k : Class) (i : Nat) (f : Field) (a : Nat) (cell : Cell), U.vm.findClass C = some c ∧ U.fieldFound? C n d = some (c, k, i, f) ∧ f.isStatic = true ∧ k.statics = some a ∧ H[a]? = some cell ∧ cell.vm.isStatics = true ∧ cell.cls = c ∧ f.slot < cell.slots.size ∧ k.staticTypes[f.slot]? = some f.type ∧ ¬ A a
theorem vx_L.moved {C n d : String} {A : Nat → Prop} {u U : State} {H : Heap} (hvm : u.vm.Alike U.vm) (h : vx_L C n d A u H) : vx_L C n d A U H := by
  obtain ⟨c, k, i, f, a, cell, h1, h2, h3, h4, h5, h6, h7, h8, h9, h10⟩ := h
  obtain ⟨k', hi', he⟩ := State.fieldFound?_setVm hvm h2
  exact ⟨c, k', i, f, a, cell, by rw [hvm.findClass]; exact h1, hi', h3, by rw [he]; exact h4, h5, h6, h7, h8, by rw [he]; exact h9, h10⟩
theorem vx_L.kept {C n d : String} {A : Nat → Prop} {U : State} {H H1 : Heap} (h : vx_L C n d A U H) (hq : ∀ a : Nat, a < H.size → ¬ A a → H1[a]? = H[a]?) : vx_L C n d A U H1 := by
  obtain ⟨c, k, i, f, a, cell, h1, h2, h3, h4, h5, h6, h7, h8, h9, h10⟩ := h
  exact ⟨c, k, i, f, a, cell, h1, h2, h3, h4, by rw [hq a (Array.getElem?_eq_some_iff.mp h5).1 h10]; exact h5, h6, h7, h8, h9, h10⟩
theorem vx_L.narrow {C n d : String} {A B : Nat → Prop} {U : State} {H : Heap} (h : vx_L C n d A U H) (hAB : ∀ q, B q → A q) : vx_L C n d B U H := by
  obtain ⟨c, k, i, f, a, cell, h1, h2, h3, h4, h5, h6, h7, h8, h9, h10⟩ := h
  exact ⟨c, k, i, f, a, cell, h1, h2, h3, h4, h5, h6, h7, h8, h9, fun z => h10 (hAB _ z)⟩
theorem vx_L.word {C n d : String} {A : Nat → Prop} {s : State} {args : Array Value} (h : vx_L C n d A s s.heap) : (Cond.laysStatic C n d).before args s = true := by
  obtain ⟨c, k, i, f, a, cell, h1, h2, h3, h4, h5, h6, h7, h8, h9, -⟩ := h
  show (Cond.laysStatic C n d).holds args s none s [] = true
  exact Cond.laysStatic_of h1 h2 h3 h4 h5 h6 h7 h8 h9
/-- .. and what it holds: null or some reference -/
def vx_Zq (C n d : String) (A : Nat → Prop) (U : State) (H : Heap) : Prop := va_Zq C n d A U H ∧ vx_L C n d A U H
theorem vx_Zq.moved {C n d : String} {A : Nat → Prop} {u U : State} {H : Heap} (hvm : u.vm.Alike U.vm) (h : vx_Zq C n d A u H) : vx_Zq C n d A U H := ⟨va_Zq.moved hvm h.1, vx_L.moved hvm h.2⟩
theorem vx_Zq.kept {C n d : String} {A : Nat → Prop} {U : State} {H H1 : Heap} (h : vx_Zq C n d A U H) (hq : ∀ a : Nat, a < H.size → ¬ A a → H1[a]? = H[a]?) : vx_Zq C n d A U H1 := ⟨va_Zq.kept h.1 hq, vx_L.kept h.2 hq⟩
theorem vx_Zq.narrow {C n d : String} {A B : Nat → Prop} {U : State} {H : Heap} (h : vx_Zq C n d A U H) (hAB : ∀ q, B q → A q) : vx_Zq C n d B U H := ⟨va_Zq.narrow h.1 hAB, vx_L.narrow h.2 hAB⟩
theorem vx_Zqof {args : Array Value} {s : State} {C n d : String} {A : Nat → Prop} (hl : (Cond.laysStatic C n d).before args s = true) (hini : (Cond.initialized C).before args s = true) (h : (Cond.isRef (.static C n d)).before args s = true) (hA : ∀ a : Nat, a < s.heap.size → ¬ A a) : vx_Zq C n d A s s.heap := by
  refine ⟨va_Zqof hl hini h hA, ?_⟩
  obtain ⟨c, k, i, f, a, cell, h1, h2, h3, h4, h5, h6, h7, h8, h9⟩ := Cond.laysStatic_spec hl
  exact ⟨c, k, i, f, a, cell, h1, h2, h3, h4, h5, h6, h7, h8, h9, hA a (Array.getElem?_eq_some_iff.mp h5).1⟩
theorem vx_isRef {C n d : String} {v : Value} {A : Nat → Prop} {s : State} {args : Array Value} (h : va_Z C n d v A s s.heap) (hv : v.isRef = true) : (Cond.isRef (.static C n d)).before args s = true := by
  obtain ⟨cf, kf, fi, f, a, cell, h1, h2, h3, h4, h5, h6, h7, -⟩ := h
  have he : (Term.static C n d).eval args s none [] s = some v := by
    simp [Term.eval, State.fieldNamed?, h1, h2, h4, h5, h6, h7]
  simp only [Cond.before, Cond.holds, Cond.value, he]
  cases v <;> simp_all [Value.isRef]
theorem vx_isRefq {C n d : String} {A : Nat → Prop} {s : State} {args : Array Value} (h : va_Zq C n d A s s.heap) : (Cond.isRef (.static C n d)).before args s = true := by
  rcases h with h | ⟨t, h⟩
  · exact vx_isRef h rfl
  · exact vx_isRef h rfl
/-- the same frame, seen from here: as if the method were called anew in this heap -/
theorem vx_rebase {T : State} (X : Stand p l e R s m args below meth c T locs cells slots) {R' : Room} (hf : R'.frames ≤ R.frames) (hl : R'.locals ≤ R.locals) (hc : cells + R'.cells ≤ R.cells) (hs : slots + R'.slots ≤ R.slots) :
    Stand p l e R' ((T.setVm s.vm).setFrames (.invoking m args :: below)) m args below meth c T [] 0 0 := by
  have htop : (T.setVm s.vm).topJava?.isSome := X.here.top
  have hF : ((T.setVm s.vm).setFrames (.invoking m args :: below)).frames = .invoking m args :: below := State.frames_setFrames _ (State.cur_lt_of_top htop)
  obtain ⟨g₀, hg0⟩ := Option.isSome_iff_exists.mp htop
  obtain ⟨r, hr⟩ := State.topJava?_eq_some.mp hg0
  have hl9 : e.platform.stackLimits (T.setVm s.vm).me = e.platform.stackLimits s.me := X.limits
  have hb9 : (T.setVm s.vm).me.stackBytes = s.me.stackBytes := X.bytes
  refine ⟨X.admits, X.cas, X.clock, hF, ?_, X.hears, X.method, X.code, X.here, X.tail, X.warmed, ?_, ?_, ?_⟩
  · have h := X.room
    have hU : ((T.setVm s.vm).setFrames (.invoking m args :: below)).localsInUse = s.localsInUse := by
      rw [State.localsInUse_invoking hF (meth := meth) (c := c) X.method X.code, State.localsInUse_invoking X.frames X.method X.code]
    simp only [State.hasRoom, Bool.and_eq_true, decide_eq_true_eq] at h ⊢
    obtain ⟨⟨⟨⟨h1, h2, h3, h4, h5, h6⟩, h7⟩, h8⟩, h9⟩ := h
    rw [X.frames, List.length_cons] at h2 h3
    have q1 := X.heapSize
    have q2 := X.used
    simp only [hF, hU, List.length_cons, State.stackLimits_setFrames, State.stackBytes_setFrames, hl9, hb9]
    refine ⟨⟨⟨⟨by omega, by omega, by omega, by omega, by omega, h6⟩, ?_⟩, ?_⟩, X.book⟩
    · show T.heap.size + R'.cells ≤ e.platform.maxCells
      omega
    · show T.slotsUsed + R'.slots ≤ e.platform.maxSlots
      omega
  · rw [State.stackLimits_setFrames]; rfl
  · rw [State.stackBytes_setFrames]; rfl
  · refine ⟨?_, Nat.le_refl _, Nat.le_refl _, ?_, ?_, fun a c9 h9 => ⟨c9, h9, rfl, rfl, fun _ _ => rfl⟩⟩
    · obtain ⟨t, ht, -⟩ := State.frames_cons hr
      show T.setVm s.vm = { ((T.setVm s.vm).setFrames (.invoking m args :: below)).setFrames (T.setVm s.vm).frames with heap := T.heap, slotsUsed := T.slotsUsed }
      rw [State.setFrames_setFrames, State.setFrames_self ht]
      rfl
    · show T.slotsUsed = T.slotsUsed + ((T.heap.toList.drop T.heap.size).map (·.slots.size)).sum
      rw [List.drop_eq_nil_of_le (Nat.le_of_eq Array.length_toList)]
      rfl
    · show ((T.heap.toList.drop T.heap.size).map (·.slots.size)).sum ≤ 0
      rw [List.drop_eq_nil_of_le (Nat.le_of_eq Array.length_toList)]
      exact Nat.le_refl _
/-- 'throw new E()': new; dup; invokespecial; athrow -/
theorem vx_throw0 {cc : ByteArray} {pc : Nat} (hexec : p.tables.exec = Jvm.exec) (hb : c.code = cc) (hl : l.stackTraces = false) {own cls : String} {names : List String} {ik ic mc ms : Nat} {A : Nat → Prop}
    (hown : s.vm.findClass own = some m.cls) (hcls : Bundle.fit cls = true) (hnames : ∀ n ∈ names, Bundle.fit n = true)
    (hk : (Cond.classLink own ik cls).before args s = true) (hini : (Cond.initialized cls).before args s = true) (hat : ∀ w ∈ vx_at0 own ic cls names, w.before args s = true)
    (hgood : ∀ w ∈ Cond.classLink own ik cls :: Cond.initialized cls :: vx_at0 own ic cls names, vx_ot w = true)
    (hU : vx_Zq Bundle.tN "UNASSIGNED_STACK" Bundle.steD A s s.heap) (hN : vx_Zq Bundle.tN "SUPPRESSED_SENTINEL" Bundle.listD A s s.heap) (hS : va_S A s.heap H locs) (hsize : ls.size = c.maxLocals)
    (d0 : decode cc pc = .ok (.new ik, 3)) (d3 : decode cc (pc + 3) = .ok (.dup, 1)) (d4 : decode cc (pc + 4) = .ok (.invokespecial ic, 3)) (d7 : decode cc (pc + 7) = .ok (.athrow, 1))
    (hout : ∀ x ∈ c.exceptionTable.toList, covers x (pc + 7) = false)
    (hRframes : names.length + 3 < R.frames) (hRlocals : (rest.map fun v => v.category).sum + (13 * (names.length + 1) + 42) ≤ R.locals) (hRcells : cells + 1 ≤ R.cells) (hRslots : slots + 6 ≤ R.slots) (hlocks : meth.locks = false)
    (hx : ∀ t : State, s.vm.Alike t.vm → H.size ≤ t.heap.size → (∀ q : Nat, q < H.size → t.heap[q]? = H[q]?) → XC cls s t)
    (hf : ∀ z ∈ locs, free z.base) (hc : cells + 1 ≤ mc) (hs : slots + 6 ≤ ms) :
    W p l e R s m args below meth c H locs cells slots (vx_MQ below Qc XC args s mc ms free) (F0 m pc ls rest) := by
  intro T hT X
  have htr : e.platform.stackTraces = false := (show e.platform.stackTraces = l.stackTraces by rw [X.admits.platform]).trans hl
  have Y := vx_rebase X (R' := { frames := R.frames, locals := R.locals, cells := 1, slots := 6 }) (Nat.le_refl _) (Nat.le_refl _) hRcells hRslots
  obtain ⟨s', hA⟩ : ∃ z, z = (T.setVm s.vm).setFrames (.invoking m args :: below) := ⟨_, rfl⟩
  rw [← hA] at Y
  have hvm : s'.vm = s.vm := by rw [hA]; rfl
  have hhp : s'.heap = H := by rw [hA]; exact hT
  have hW0 : s.WarmedH s'.vm := by rw [hvm]; exact State.WarmedH.refl s
  have hat' : ∀ w ∈ vx_at0 own ic cls names, w.before args s' = true := fun w hw => vx_ot_at hW0 hvm.symm (hgood w (List.mem_cons_of_mem _ (List.mem_cons_of_mem _ hw))) (hat w hw)
  have hk' : (Cond.classLink own ik cls).before args s' = true := vx_ot_at hW0 hvm.symm (hgood _ List.mem_cons_self) hk
  have hini' : (Cond.initialized cls).before args s' = true := vx_ot_at hW0 hvm.symm (hgood _ (List.mem_cons_of_mem _ List.mem_cons_self)) hini
  have hU' : vx_Zq Bundle.tN "UNASSIGNED_STACK" Bundle.steD A s' s'.heap := by rw [hhp]; exact vx_Zq.moved hW0.alike (hU.kept hS.2.1)
  have hN' : vx_Zq Bundle.tN "SUPPRESSED_SENTINEL" Bundle.listD A s' s'.heap := by rw [hhp]; exact vx_Zq.moved hW0.alike (hN.kept hS.2.1)
  have h : ∀ w ∈ Bundle.ownAtoms0 own ic cls names, w.before args s' = true := vx_own hat' (vx_isRefq hU'.1) (vx_isRefq hN'.1) hU'.2.word hN'.2.word
  have hown' : s'.vm.findClass own = some m.cls := by rw [hvm]; exact hown
  have hins : (Cond.instantiable cls 6).before args s' = true := h _ (by simp [Bundle.ownAtoms0])
  obtain ⟨vm₁, cX, kX, hfX, hkX, -, -, X₁, st1⟩ := Y.newCold hexec (own := own) (C := cls) (index := ik) (n := 6) hown' hk' hins hini'
    (g := F0 m pc ls rest) rfl (by rw [hb]; exact d0) (Nat.le_refl _) (Nat.le_refl _)
  generalize hT1 : (T.setVm vm₁).pushCell { cls := cX, slots := kX.instanceTypes.map defaultValue, vm := .none } = T1 at X₁ st1
  have hcat : (Value.ref T.heap.size).category = 1 := rfl
  have hcellA : T1.heap[T.heap.size]? = some (freshCell cX kX) := by rw [← hT1]; exact State.heap_pushCell_size _ _
  have d3' : decode c.code (pc + 3) = .ok (.dup, 1) := by rw [hb]; exact d3
  obtain ⟨U, hsteps, hrun, hend, hW, hsame, ce, hce, hO⟩ := X₁.ctorThrow0 hexec htr (own := own) (cls := cls) (names := names) (ic := ic) hown' hcls hnames h (fun x hx => nomatch hx) hfX hkX hcellA (by rw [hhp, hT]; exact Nat.le_refl _)
    (g := { method := m, pc := pc + 4, locals := ls, stack := .ref T.heap.size :: .ref T.heap.size :: rest, locked := none }) rfl hsize rfl rfl (rest := rest) rfl
    (by rw [hb]; exact d4) (by rw [hb]; exact d7) hout hRframes (by simp only [List.map_cons, List.sum_cons, hcat]; omega) hlocks
  obtain ⟨f1, f2⟩ := vx_frame hsame
  rw [hhp] at f1 f2
  have hWs : s.WarmedH U.vm := State.WarmedH.trans hW0 hW
  have hcl : s.vm.findClass cls = some ce.cls := by
    have h9 := hO.cls
    rw [hvm] at h9
    exact h9
  have hall : s.sameButNew ({ U with vm := s.vm } : State) locs mc ms := by
    subst hA
    obtain ⟨e1, e2⟩ := hsame
    rw [State.setFrames_setFrames] at e1
    have h2 : (T.setVm s.vm).sameButNew ({ U with vm := s.vm } : State) [] (0 + 1) (0 + 6) := ⟨e1, e2⟩
    have h3 := X.same.trans h2
    rw [List.append_nil] at h3
    exact h3.mono hc hs
  refine ⟨U, ?_, .threw T.heap.size, hrun, hend, Or.inr ⟨T.heap.size, rfl, cls, ce, locs, hx U hWs.alike f1 (fun q hq => f2 q hq (fun z hz => nomatch hz)), hce, hO.vm, hcl, hWs, hall, hf⟩⟩
  refine st1 _ ?_
  show Steps p.tables e below (T1.setTop { method := m, pc := pc + 3, locals := ls, stack := .ref T.heap.size :: rest, locked := none }) _
  jvm_step X₁.here [X₁.here.top, hexec, d3', Value.category]
  exact hsteps
/-- 'throw new E("text")': new; dup; ldc; invokespecial; athrow -/
theorem vx_throwS {cc : ByteArray} {pc : Nat} (hexec : p.tables.exec = Jvm.exec) (hb : c.code = cc) (hl : l.stackTraces = false) {own cls text : String} {names : List String} {ik is ic mc ms sa : Nat} {A : Nat → Prop}
    (hown : s.vm.findClass own = some m.cls) (hcls : Bundle.fit cls = true) (hnames : ∀ n ∈ names, Bundle.fit n = true)
    (hk : (Cond.classLink own ik cls).before args s = true) (hini : (Cond.initialized cls).before args s = true) (hstr : vk_R own is text sa s) (hat : ∀ w ∈ vx_atS own ic cls names, w.before args s = true)
    (hgood : ∀ w ∈ Cond.classLink own ik cls :: Cond.initialized cls :: vx_atS own ic cls names, vx_ot w = true)
    (hU : vx_Zq Bundle.tN "UNASSIGNED_STACK" Bundle.steD A s s.heap) (hN : vx_Zq Bundle.tN "SUPPRESSED_SENTINEL" Bundle.listD A s s.heap) (hS : va_S A s.heap H locs) (hsize : ls.size = c.maxLocals)
    (d0 : decode cc pc = .ok (.new ik, 3)) (d3 : decode cc (pc + 3) = .ok (.dup, 1)) (d4 : decode cc (pc + 4) = .ok (.ldc is, 2)) (d6 : decode cc (pc + 6) = .ok (.invokespecial ic, 3)) (d9 : decode cc (pc + 9) = .ok (.athrow, 1))
    (hout : ∀ x ∈ c.exceptionTable.toList, covers x (pc + 9) = false)
    (hRframes : names.length + 3 < R.frames) (hRlocals : (rest.map fun v => v.category).sum + (13 * (names.length + 1) + 43) ≤ R.locals) (hRcells : cells + 1 ≤ R.cells) (hRslots : slots + 6 ≤ R.slots) (hlocks : meth.locks = false)
    (hx : ∀ t : State, s.vm.Alike t.vm → H.size ≤ t.heap.size → (∀ q : Nat, q < H.size → t.heap[q]? = H[q]?) → XC cls s t)
    (hf : ∀ z ∈ locs, free z.base) (hc : cells + 1 ≤ mc) (hs : slots + 6 ≤ ms) :
    W p l e R s m args below meth c H locs cells slots (vx_MQ below Qc XC args s mc ms free) (F0 m pc ls rest) := by
  intro T hT X
  have htr : e.platform.stackTraces = false := (show e.platform.stackTraces = l.stackTraces by rw [X.admits.platform]).trans hl
  have Y := vx_rebase X (R' := { frames := R.frames, locals := R.locals, cells := 1, slots := 6 }) (Nat.le_refl _) (Nat.le_refl _) hRcells hRslots
  obtain ⟨s', hA⟩ : ∃ z, z = (T.setVm s.vm).setFrames (.invoking m args :: below) := ⟨_, rfl⟩
  rw [← hA] at Y
  have hvm : s'.vm = s.vm := by rw [hA]; rfl
  have hhp : s'.heap = H := by rw [hA]; exact hT
  have hW0 : s.WarmedH s'.vm := by rw [hvm]; exact State.WarmedH.refl s
  have hat' : ∀ w ∈ vx_atS own ic cls names, w.before args s' = true := fun w hw => vx_ot_at hW0 hvm.symm (hgood w (List.mem_cons_of_mem _ (List.mem_cons_of_mem _ hw))) (hat w hw)
  have hk' : (Cond.classLink own ik cls).before args s' = true := vx_ot_at hW0 hvm.symm (hgood _ List.mem_cons_self) hk
  have hini' : (Cond.initialized cls).before args s' = true := vx_ot_at hW0 hvm.symm (hgood _ (List.mem_cons_of_mem _ List.mem_cons_self)) hini
  have hU' : vx_Zq Bundle.tN "UNASSIGNED_STACK" Bundle.steD A s' s'.heap := by rw [hhp]; exact vx_Zq.moved hW0.alike (hU.kept hS.2.1)
  have hN' : vx_Zq Bundle.tN "SUPPRESSED_SENTINEL" Bundle.listD A s' s'.heap := by rw [hhp]; exact vx_Zq.moved hW0.alike (hN.kept hS.2.1)
  have h : ∀ w ∈ Bundle.ownAtoms own ic cls names, w.before args s' = true := vx_own hat' (vx_isRefq hU'.1) (vx_isRefq hN'.1) hU'.2.word hN'.2.word
  have hown' : s'.vm.findClass own = some m.cls := by rw [hvm]; exact hown
  have hins : (Cond.instantiable cls 6).before args s' = true := h _ (by simp [Bundle.ownAtoms])
  obtain ⟨vm₁, cX, kX, hfX, hkX, -, -, X₁, st1⟩ := Y.newCold hexec (own := own) (C := cls) (index := ik) (n := 6) hown' hk' hins hini'
    (g := F0 m pc ls rest) rfl (by rw [hb]; exact d0) (Nat.le_refl _) (Nat.le_refl _)
  generalize hT1 : (T.setVm vm₁).pushCell { cls := cX, slots := kX.instanceTypes.map defaultValue, vm := .none } = T1 at X₁ st1
  have hcat : (Value.ref T.heap.size).category = 1 := rfl
  have hcellA : T1.heap[T.heap.size]? = some (freshCell cX kX) := by rw [← hT1]; exact State.heap_pushCell_size _ _
  have d3' : decode c.code (pc + 3) = .ok (.dup, 1) := by rw [hb]; exact d3
  have d4' : decode c.code (pc + 4) = .ok (.ldc is, 2) := by rw [hb]; exact d4
  have hstr' : vk_R own is text sa s' := vk_R.warm hW0 hstr
  obtain ⟨U, hsteps, hrun, hend, hW, hsame, ce, hce, hO⟩ := X₁.ctorThrowS hexec htr (own := own) (cls := cls) (names := names) (ic := ic) hown' hcls hnames h (fun x hx => nomatch hx) hfX hkX hcellA (by rw [hhp, hT]; exact Nat.le_refl _) (msg := .ref sa) rfl
    (g := { method := m, pc := pc + 6, locals := ls, stack := .ref sa :: .ref T.heap.size :: .ref T.heap.size :: rest, locked := none }) rfl hsize rfl rfl (rest := rest) rfl
    (by rw [hb]; exact d6) (by rw [hb]; exact d9) hout hRframes (by simp only [List.map_cons, List.sum_cons, hcat]; omega) hlocks
  obtain ⟨f1, f2⟩ := vx_frame hsame
  rw [hhp] at f1 f2
  have hWs : s.WarmedH U.vm := State.WarmedH.trans hW0 hW
  have hcl : s.vm.findClass cls = some ce.cls := by
    have h9 := hO.cls
    rw [hvm] at h9
    exact h9
  have hall : s.sameButNew ({ U with vm := s.vm } : State) locs mc ms := by
    subst hA
    obtain ⟨e1, e2⟩ := hsame
    rw [State.setFrames_setFrames] at e1
    have h2 : (T.setVm s.vm).sameButNew ({ U with vm := s.vm } : State) [] (0 + 1) (0 + 6) := ⟨e1, e2⟩
    have h3 := X.same.trans h2
    rw [List.append_nil] at h3
    exact h3.mono hc hs
  refine ⟨U, ?_, .threw T.heap.size, hrun, hend, Or.inr ⟨T.heap.size, rfl, cls, ce, locs, hx U hWs.alike f1 (fun q hq => f2 q hq (fun z hz => nomatch hz)), hce, hO.vm, hcl, hWs, hall, hf⟩⟩
  refine st1 _ ?_
  show Steps p.tables e below (T1.setTop { method := m, pc := pc + 3, locals := ls, stack := .ref T.heap.size :: rest, locked := none }) _
  jvm_step X₁.here [X₁.here.top, hexec, d3', Value.category]
  exact X₁.ldcString hexec (own := own) (text := text) (index := is) (a := sa) hown' hstr'.1 hstr'.2
    (g := { method := m, pc := pc + 4, locals := ls, stack := .ref T.heap.size :: .ref T.heap.size :: rest, locked := none }) rfl d4' _ hsteps
/-- 'throw new E("text")', the text by a wide index -/
theorem vx_throwSW {cc : ByteArray} {pc : Nat} (hexec : p.tables.exec = Jvm.exec) (hb : c.code = cc) (hl : l.stackTraces = false) {own cls text : String} {names : List String} {ik is ic mc ms sa : Nat} {A : Nat → Prop}
    (hown : s.vm.findClass own = some m.cls) (hcls : Bundle.fit cls = true) (hnames : ∀ n ∈ names, Bundle.fit n = true)
    (hk : (Cond.classLink own ik cls).before args s = true) (hini : (Cond.initialized cls).before args s = true) (hstr : vk_R own is text sa s) (hat : ∀ w ∈ vx_atS own ic cls names, w.before args s = true)
    (hgood : ∀ w ∈ Cond.classLink own ik cls :: Cond.initialized cls :: vx_atS own ic cls names, vx_ot w = true)
    (hU : vx_Zq Bundle.tN "UNASSIGNED_STACK" Bundle.steD A s s.heap) (hN : vx_Zq Bundle.tN "SUPPRESSED_SENTINEL" Bundle.listD A s s.heap) (hS : va_S A s.heap H locs) (hsize : ls.size = c.maxLocals)
    (d0 : decode cc pc = .ok (.new ik, 3)) (d3 : decode cc (pc + 3) = .ok (.dup, 1)) (d4 : decode cc (pc + 4) = .ok (.ldc_w is, 3)) (d7 : decode cc (pc + 7) = .ok (.invokespecial ic, 3)) (d10 : decode cc (pc + 10) = .ok (.athrow, 1))
    (hout : ∀ x ∈ c.exceptionTable.toList, covers x (pc + 10) = false)
    (hRframes : names.length + 3 < R.frames) (hRlocals : (rest.map fun v => v.category).sum + (13 * (names.length + 1) + 43) ≤ R.locals) (hRcells : cells + 1 ≤ R.cells) (hRslots : slots + 6 ≤ R.slots) (hlocks : meth.locks = false)
    (hx : ∀ t : State, s.vm.Alike t.vm → H.size ≤ t.heap.size → (∀ q : Nat, q < H.size → t.heap[q]? = H[q]?) → XC cls s t)
    (hf : ∀ z ∈ locs, free z.base) (hc : cells + 1 ≤ mc) (hs : slots + 6 ≤ ms) :
    W p l e R s m args below meth c H locs cells slots (vx_MQ below Qc XC args s mc ms free) (F0 m pc ls rest) := by
  intro T hT X
  have htr : e.platform.stackTraces = false := (show e.platform.stackTraces = l.stackTraces by rw [X.admits.platform]).trans hl
  have Y := vx_rebase X (R' := { frames := R.frames, locals := R.locals, cells := 1, slots := 6 }) (Nat.le_refl _) (Nat.le_refl _) hRcells hRslots
  obtain ⟨s', hA⟩ : ∃ z, z = (T.setVm s.vm).setFrames (.invoking m args :: below) := ⟨_, rfl⟩
  rw [← hA] at Y
  have hvm : s'.vm = s.vm := by rw [hA]; rfl
  have hhp : s'.heap = H := by rw [hA]; exact hT
  have hW0 : s.WarmedH s'.vm := by rw [hvm]; exact State.WarmedH.refl s
  have hat' : ∀ w ∈ vx_atS own ic cls names, w.before args s' = true := fun w hw => vx_ot_at hW0 hvm.symm (hgood w (List.mem_cons_of_mem _ (List.mem_cons_of_mem _ hw))) (hat w hw)
  have hk' : (Cond.classLink own ik cls).before args s' = true := vx_ot_at hW0 hvm.symm (hgood _ List.mem_cons_self) hk
  have hini' : (Cond.initialized cls).before args s' = true := vx_ot_at hW0 hvm.symm (hgood _ (List.mem_cons_of_mem _ List.mem_cons_self)) hini
  have hU' : vx_Zq Bundle.tN "UNASSIGNED_STACK" Bundle.steD A s' s'.heap := by rw [hhp]; exact vx_Zq.moved hW0.alike (hU.kept hS.2.1)
  have hN' : vx_Zq Bundle.tN "SUPPRESSED_SENTINEL" Bundle.listD A s' s'.heap := by rw [hhp]; exact vx_Zq.moved hW0.alike (hN.kept hS.2.1)
  have h : ∀ w ∈ Bundle.ownAtoms own ic cls names, w.before args s' = true := vx_own hat' (vx_isRefq hU'.1) (vx_isRefq hN'.1) hU'.2.word hN'.2.word
  have hown' : s'.vm.findClass own = some m.cls := by rw [hvm]; exact hown
  have hins : (Cond.instantiable cls 6).before args s' = true := h _ (by simp [Bundle.ownAtoms])
  obtain ⟨vm₁, cX, kX, hfX, hkX, -, -, X₁, st1⟩ := Y.newCold hexec (own := own) (C := cls) (index := ik) (n := 6) hown' hk' hins hini'
    (g := F0 m pc ls rest) rfl (by rw [hb]; exact d0) (Nat.le_refl _) (Nat.le_refl _)
  generalize hT1 : (T.setVm vm₁).pushCell { cls := cX, slots := kX.instanceTypes.map defaultValue, vm := .none } = T1 at X₁ st1
  have hcat : (Value.ref T.heap.size).category = 1 := rfl
  have hcellA : T1.heap[T.heap.size]? = some (freshCell cX kX) := by rw [← hT1]; exact State.heap_pushCell_size _ _
  have d3' : decode c.code (pc + 3) = .ok (.dup, 1) := by rw [hb]; exact d3
  have d4' : decode c.code (pc + 4) = .ok (.ldc_w is, 3) := by rw [hb]; exact d4
  have hstr' : vk_R own is text sa s' := vk_R.warm hW0 hstr
  obtain ⟨U, hsteps, hrun, hend, hW, hsame, ce, hce, hO⟩ := X₁.ctorThrowS hexec htr (own := own) (cls := cls) (names := names) (ic := ic) hown' hcls hnames h (fun x hx => nomatch hx) hfX hkX hcellA (by rw [hhp, hT]; exact Nat.le_refl _) (msg := .ref sa) rfl
    (g := { method := m, pc := pc + 7, locals := ls, stack := .ref sa :: .ref T.heap.size :: .ref T.heap.size :: rest, locked := none }) rfl hsize rfl rfl (rest := rest) rfl
    (by rw [hb]; exact d7) (by rw [hb]; exact d10) hout hRframes (by simp only [List.map_cons, List.sum_cons, hcat]; omega) hlocks
  obtain ⟨f1, f2⟩ := vx_frame hsame
  rw [hhp] at f1 f2
  have hWs : s.WarmedH U.vm := State.WarmedH.trans hW0 hW
  have hcl : s.vm.findClass cls = some ce.cls := by
    have h9 := hO.cls
    rw [hvm] at h9
    exact h9
  have hall : s.sameButNew ({ U with vm := s.vm } : State) locs mc ms := by
    subst hA
    obtain ⟨e1, e2⟩ := hsame
    rw [State.setFrames_setFrames] at e1
    have h2 : (T.setVm s.vm).sameButNew ({ U with vm := s.vm } : State) [] (0 + 1) (0 + 6) := ⟨e1, e2⟩
    have h3 := X.same.trans h2
    rw [List.append_nil] at h3
    exact h3.mono hc hs
  refine ⟨U, ?_, .threw T.heap.size, hrun, hend, Or.inr ⟨T.heap.size, rfl, cls, ce, locs, hx U hWs.alike f1 (fun q hq => f2 q hq (fun z hz => nomatch hz)), hce, hO.vm, hcl, hWs, hall, hf⟩⟩
  refine st1 _ ?_
  show Steps p.tables e below (T1.setTop { method := m, pc := pc + 3, locals := ls, stack := .ref T.heap.size :: rest, locked := none }) _
  jvm_step X₁.here [X₁.here.top, hexec, d3', Value.category]
  exact X₁.ldcStringW hexec (own := own) (text := text) (index := is) (a := sa) hown' hstr'.1 hstr'.2
    (g := { method := m, pc := pc + 4, locals := ls, stack := .ref T.heap.size :: .ref T.heap.size :: rest, locked := none }) rfl d4' _ hsteps
end Ends
section Bodies
variable {l : Launch}
theorem vx_ofW {y : MethodName} {ws ws' : List Cond} {rm : Room} {Pc : Array Value → State → Prop} {Qc : Array Value → State → Outcome → State → Prop} {XC : String → State → State → Prop} {mc ms : Nat} {free : Addr → Prop} {cc : ByteArray} {maxL : Nat} {ret : Option FieldType}
    (hy : plainName y.cls = true) (hw : ws = Cond.code y cc maxL ret :: ws')
    (body : ∀ p e s m args below meth c s₁, BodyLoose p l y (headSpec ws rm) cc maxL ret e s m args below meth c s₁ → c.maxLocals = maxL → (∀ x ∈ c.exceptionTable.toList, False) → Pc args s →
      W p l e (headSpec ws rm).room s m args below meth c s.heap [] 0 0 (vx_MQ below Qc XC args s mc ms free) (entryFrame m args maxL)) : vx_Met l y ws rm Pc Qc XC mc ms free := by
  refine MetFree.of_bodyS (code := cc) (maxLocals := maxL) (ret := ret) hy ?_ ?_
  · intro args s m h hn
    obtain ⟨meth, c, h1, h2, h3, h4, h5, h6, -, -⟩ := Cond.code_spec hn (atoms_spec (ws := ws) h _ (by rw [hw]; exact List.mem_cons_self))
    exact ⟨meth, c, h1, h2, h3, h4, h5, h6⟩
  · intro p e s m args below meth c s₁ B hml hP _
    have hh0 : s₁.heap = s.heap := by rw [B.state]; rfl
    have ht : ∀ x ∈ c.exceptionTable.toList, False := by
      obtain ⟨meth9, c9, h1, h2, -, -, -, -, h7, -⟩ := Cond.code_spec B.named (atoms_spec (ws := ws) B.pre _ (by rw [hw]; exact List.mem_cons_self))
      cases Option.some.inj (h1.symm.trans B.method)
      cases Option.some.inj (h2.symm.trans (Stand.of_body B).code)
      intro x hx
      rw [Array.isEmpty_iff.mp h7] at hx
      cases hx
    obtain ⟨t, a1, o, b1, b2, b3⟩ := body p e s m args below meth c s₁ B hml ht hP s₁ hh0 (Stand.of_body B)
    exact ⟨t, o, a1, b1, b2, b3⟩
/-- the table of a body with handlers -/
theorem vx_table {p : Program} {x y : MethodName} {S : Spec} {cc bytes : ByteArray} {maxL maxL' : Nat} {ret ret' : Option FieldType} {e : Env} {s s₁ : State} {m : MethodId} {args : Array Value} {below : List Frame} {meth : Method} {c : Code} {hh : List (Nat × Nat × Nat × Nat)}
    (B : BodyLoose p l y S cc maxL ret e s m args below meth c s₁) (h : (Cond.codeWith y bytes maxL' ret' hh).before args s = true) : c.exceptionTable.toList = tableOf hh := by
  obtain ⟨m9, meth9, c9, hn9, h1, h2, -, -, h6, -⟩ := Cond.codeWith_spec h
  cases Option.some.inj (hn9.symm.trans B.named)
  cases Option.some.inj (h1.symm.trans B.method)
  cases Option.some.inj (h2.symm.trans (Stand.of_body B).code)
  rw [← h6, table_eq]
end Bodies
end VXA
/-! ===== END ===== -/
/-! ===== BEGIN a static call of a method with an exception table ===== -/
section VXS
variable {p : Program} {l : Launch} {e : Env} {R : Room} {s : State} {m : MethodId} {args : Array Value} {below : List Frame} {meth : Method} {c : Code} {T : State} {H : Heap} {locs : List Loc} {cells slots : Nat}
abbrev vx_CSW (R : Room) (s : State) (args : Array Value) (own : String) (index : Nat) (y : MethodName) (bytes : ByteArray) (maxL : Nat) (ret : Option FieldType) (hh : List (Nat × Nat × Nat × Nat)) (ws : List Cond) (rm : Room) (mc ms n : Nat) : Prop :=
  (rm.cells = mc ∧ rm.slots = ms ∧ rm.frames + 1 ≤ R.frames ∧ 8 + (maxL + 11) + rm.locals ≤ R.locals ∧ (∀ w ∈ ws, ∀ (a' : Array Value) (U : State), s.WarmedH U.vm → w.before a' U = true) ∧ Cond.codeWith y bytes maxL ret hh ∈ ws) ∧
  (Cond.codeWith y bytes maxL ret hh).before args s = true ∧ (Cond.initialized y.cls).before args s = true ∧ (y.cls ≠ "java/lang/invoke/MethodHandle" ∧ y.cls ≠ "java/lang/invoke/VarHandle") ∧
  (∀ sig, parseMethodDescriptor y.desc = some sig → n = sig.parameters.length) ∧ (Cond.methodLink own index y).before args s = true ∧ (Cond.static y).before args s = true
theorem vx_cwSW {own : String} {index maxL mc ms : Nat} {y : MethodName} {bytes : ByteArray} {ret : Option FieldType} {hh : List (Nat × Nat × Nat × Nat)} {Ts ws ws' : List Cond} {rm : Room} (n : Nat) (ht : ∀ w ∈ Ts, w.before args s = true) (hT : GoodIn Ts (va_wsS own index y ws)) (hw : ws = Cond.codeWith y bytes maxL ret hh :: ws') (hrc : rm.cells = mc) (hrs : rm.slots = ms)
    (hd : y.cls ≠ "java/lang/invoke/MethodHandle" ∧ y.cls ≠ "java/lang/invoke/VarHandle" ∧ (parseMethodDescriptor y.desc).map (fun d => d.parameters.length) = some n) (hR : rm.frames + 1 ≤ R.frames ∧ 8 + (maxL + 11) + rm.locals ≤ R.locals) :
    vx_CSW R s args own index y bytes maxL ret hh ws rm mc ms n := by
  have ok : ∀ w ∈ va_wsS own index y ws, w.before args s = true := fun w h => ht w (hT w h).1
  have hG : GoodIn Ts ws := fun w h => hT w (by unfold va_wsS; exact List.mem_append_right _ h)
  have hc : Cond.codeWith y bytes maxL ret hh ∈ ws := by rw [hw]; exact List.mem_cons_self
  refine ⟨⟨hrc, hrs, hR.1, hR.2, pay_in ht hG, hc⟩, ht _ (hG _ hc).1, ok _ (by simp [va_wsS]), ⟨hd.1, hd.2.1⟩, fun sig h => ?_, ok _ (by simp [va_wsS]), ok _ (by simp [va_wsS])⟩
  have h2 := hd.2.2
  rw [h] at h2
  exact (Option.some.inj h2).symm
theorem vx_callSW (X : Stand p l e R s m args below meth c T locs cells slots) (hexec : p.tables.exec = Jvm.exec) {own : String} {index : Nat} {y : MethodName} {bytes : ByteArray} {maxL : Nat} {ret : Option FieldType} {hh : List (Nat × Nat × Nat × Nat)}
    (hown : s.vm.findClass own = some m.cls) (hlink : (Cond.methodLink own index y).before args s = true) (hstat : (Cond.static y).before args s = true) (hinit : (Cond.initialized y.cls).before args s = true)
    (hcode : (Cond.codeWith y bytes maxL ret hh).before args s = true) (hy : y.cls ≠ "java/lang/invoke/MethodHandle" ∧ y.cls ≠ "java/lang/invoke/VarHandle")
    {W9 : Nat} {Pre : Pt → Array Value → Prop} {Post : Pt → Array Value → Option Value → Pt → Prop} (hK : Back l R p e below s args y 3 W9 Pre Post)
    {g : JFrame} (hg : g.method = m) (hsize : g.locals.size = c.maxLocals) {argsL rest : List Value} (hlen : ∀ sig, parseMethodDescriptor y.desc = some sig → argsL.length = sig.parameters.length)
    (hstack : g.stack = argsL.reverse ++ rest) (hW : 2 * g.monitorRoom + (rest.map fun v => v.category).sum ≤ W9) (hdg : decode c.code g.pc = .ok (.invokestatic index, 3))
    (hpre : ∀ vm₁, s.WarmedH vm₁ → Pre ⟨T.setVm vm₁, locs, cells, slots⟩ argsL.toArray) :
    ∃ (v : Option Value) (vm₁ : Vm) (B : Pt), s.WarmedH vm₁ ∧ Stand p l e R s m args below meth c B.U B.locs B.cells B.slots ∧ Post ⟨T.setVm vm₁, locs, cells, slots⟩ argsL.toArray v B ∧
      ∀ target, Steps p.tables e below (B.U.setTop { g with pc := g.pc + 3, stack := v.toList ++ rest }) target → Steps p.tables e below (T.setTop g) target := by
  obtain ⟨mk, methM, cM, hnamed, hmethM, -, -, -, -, -, -, hsigM⟩ := Cond.codeWith_spec hcode
  have hstatic : methM.isStatic = true := Cond.static_spec hnamed hmethM hstat
  obtain ⟨kP, hkP, -⟩ := className_of_methodNamed hnamed
  have hinitP : kP.init = .initialized := Cond.initialized_spec (findClass_of_methodNamed hnamed) hkP hinit
  obtain ⟨vm₁, X₁, hstep₁⟩ := X.invokestatic hexec hown hlink hnamed hmethM hstatic hkP hinitP hy (g := g) hg (argsL := argsL) (rest := rest) (hlen _ hsigM) hstack hdg
  obtain ⟨v, B, X', hpost, hsteps⟩ := hK m meth c ⟨T.setVm vm₁, locs, cells, slots⟩ { g with stack := rest } (.invokestatic index) mk argsL.toArray X₁ hg hsize hdg hW (X₁.named hnamed) (hpre vm₁ X₁.warmed)
  exact ⟨v, vm₁, B, X₁.warmed, X', hpost, fun target h => hstep₁ _ fun acts => by rw [doInvoke_state]; exact hsteps.trans h⟩
theorem vx_runSW {y : MethodName} {bytes cc : ByteArray} {maxL nL mc ms n index : Nat} {ret : Option FieldType} {hh : List (Nat × Nat × Nat × Nat)} {ws : List Cond} {rm : Room} {Pc : Array Value → State → Prop} {Qc : Array Value → State → Outcome → State → Prop} {free : Addr → Prop} {Ts : List Cond} {own : String} {As rest : List Value} {g : JFrame}
    (S : CallFix p m c cc nL s args Ts own) (hM : Met l y ws rm Pc Qc mc ms free) (cw : vx_CSW R s args own index y bytes maxL ret hh ws rm mc ms n) (hp : PreS s H Pc As)
    (hg : g.method = m) (hn : As.length = n) (hsize : g.locals.size = nL) (hstack : g.stack = As.reverse ++ rest) (hW : 2 * g.monitorRoom + (rest.map fun v => v.category).sum ≤ 8) (hdg : decode cc g.pc = .ok (.invokestatic index, 3)) (hf : cells + mc ≤ R.cells ∧ slots + ms ≤ R.slots) :
    va_Run p l e R s m args below meth c H locs cells slots mc ms g rest (Qc As.toArray) (free) := by
  obtain ⟨⟨hrc, hrs, hfr, hlo, hws, hcw⟩, hcode, hini, hy, hlen, hl, hstt⟩ := cw
  have hK : Back l R p e below s args y 3 8 (PreOf R mc ms Pc) (PostOf Qc mc ms free) := va_backW (hh := hh) (bytes := bytes) (maxL := maxL) (ret := ret) hM hp.1 hrc hrs hfr hlo hws hcw (fun a' U hW => word_at hW (Or.inl (by first | rfl | simp [Cond.onTables, Cond.keeps, Cond.steady])) hini)
  obtain ⟨hx, hb, hml, ho, -⟩ := S
  intro T hT X
  obtain ⟨v, vm₁, ⟨U', l2, c2, s2⟩, hW₁, X', ⟨g', mk, t, L, e1, e2, hq, h1, hL, h2, h3⟩, st⟩ := vx_callSW X hx (hh := hh) (bytes := bytes) (maxL := maxL) (ret := ret) ho hl hstt hini hcode hy hK hg (hsize.trans hml.symm) (argsL := As) (rest := rest) (fun sig h => hn.trans (hlen sig h)) hstack hW (by rw [hb]; exact hdg)
    (fun vm₁ hW₁ => ⟨hf.1, hf.2, hp.2 (T.setVm vm₁) hT hW₁⟩)
  dsimp only [Pt.U, Pt.locs, Pt.cells, Pt.slots] at X' e1 e2 h1 h2 h3 st
  subst h1; subst h2; subst h3
  exact ⟨v, (T.setVm vm₁).calling g' mk As.toArray, t, U', L, hT, X', hL, e1, e2, hq, st⟩
/-- not caught here, past rows that name other classes: it goes on to the caller -/
theorem vx_outP {p : Program} {l : Launch} {e : Env} {R : Room} {s : State} {m : MethodId} {args : Array Value} {below : List Frame} {meth : Method} {c : Code} {H : Heap} {locs : List Loc} {cells slots : Nat} {free : Addr → Prop} {ls : Array Slot} {rest : List Value} {Qc : Array Value → State → Outcome → State → Prop} {XC : String → State → State → Prop}
    {pc : Nat} {own E : String} {ce : Cell} {q : Addr} {mc ms : Nat} (hown : s.vm.findClass own = some m.cls) (hlocks : meth.locks = false)
    (hpass : ∀ z ∈ c.exceptionTable.toList, covers z pc = false ∨ (z.catchType ≠ 0 ∧ ∃ nm : String, (Cond.classLink own z.catchType nm).before args s = true ∧ va_Nc E nm s)) (hcell : H[q]? = some ce) (hv : ce.vm = .none) (hcl : s.vm.findClass E = some ce.cls)
    (hx : ∀ t : State, t.heap = H → s.vm.Alike t.vm → XC E s t) (hf : ∀ z ∈ locs, free z.base) (hc : cells ≤ mc) (hs : slots ≤ ms) :
    vx_W p l e R s m args below meth c H locs cells slots (vx_MQ below Qc XC args s mc ms free) (F0 m pc ls rest) q := by
  intro T hT X
  have hpl : e.platform.magicAccessors = ({} : Platform).magicAccessors := by rw [X.admits.platform]
  obtain ⟨vm', hW', X', st⟩ := X.outThrough hlocks q (g := F0 m pc ls rest) rfl rfl rfl (cell := ce) (by rw [hT]; exact hcell) (by rw [hv]; rfl)
    (by obtain ⟨k9, h9, -⟩ := Vm.findClass_spec hcl; exact ⟨k9, h9⟩) (fun z hz => by
      rcases hpass z hz with h | ⟨hz0, nm, hl1, hn1⟩
      · exact Or.inl h
      · obtain ⟨c6, hc6, hcl6⟩ := Cond.classLink_spec hown hl1 e.platform hpl
        obtain ⟨a8, b8, h1, h2, h3⟩ := hn1
        cases Option.some.inj (h1.symm.trans hcl)
        cases Option.some.inj (h2.symm.trans hc6)
        exact Or.inr ⟨hz0, _, hcl6, h3⟩)
  obtain ⟨g₀, hfr⟩ := X'.frames_eq
  have hcell9 : ((T.setVm vm').setFrames (.throwing q :: below)).heap[q]? = some ce := by
    show T.heap[q]? = some ce
    rw [hT]; exact hcell
  have hend : Ended ((T.setVm vm').setFrames (.throwing q :: below)) below (.threw q) := State.frames_setFrames _ (State.cur_lt_of_frames hfr)
  refine ⟨(T.setVm vm').setFrames (.throwing q :: below), ?_, .threw q, X'.here.running, hend, Or.inr ⟨q, rfl, E, ce, locs, hx _ hT (X'.ends _).1.alike, hcell9, hv, hcl, (X'.ends _).1, (X'.ends _).2.mono hc hs, hf⟩⟩
  rw [X.pushThrowing_eq]
  exact st
/-- a thing of a world lies in the heap -/
theorem vx_lt {D : va_G} {cl : List vw_C} {ws : va_W} {H1 : Heap} (h : va_P D cl ws H1) {k : Nat} {q : Nat × va_E} (hk : ws[k]? = some q) : q.1 < H1.size := (h k q hk).lt
end VXS
/-! ===== END ===== -/
/-! ===== BEGIN methods with a table of their own: called by a name, returning or throwing ===== -/
section VXH
/-! vx_backW, vx_callVX, vx_callSX, vx_callVW, vx_runVW, vx_runVX, vx_runSX, vx_ofWH follow the same proofs as their sisters above (Free/Laws.lean, Shelf42/LK1.lean); vx_outP calls Shelf42/NT130.lean (outThrough). -/
section
variable {l : Launch} {R : Room} {p : Program} {e : Env} {below : List Frame} {s : State} {sargs : Array Value} {y : MethodName} {len W9 : Nat}
theorem vx_backW {ws : List Cond} {rm : Room} {Pc : Array Value → State → Prop} {Qc : Array Value → State → Outcome → State → Prop} {XC : String → State → State → Prop} {mc ms : Nat} {free : Addr → Prop} {bytes : ByteArray} {maxL : Nat} {ret : Option FieldType} {hh : List (Nat × Nat × Nat × Nat)}
    (hM : vx_Met l y ws rm Pc Qc XC mc ms free) (hblind : FrameBlind Pc) (hrc : rm.cells = mc) (hrs : rm.slots = ms)
    (hframes : rm.frames + 1 ≤ R.frames) (hlocals : W9 + (maxL + 11) + rm.locals ≤ R.locals)
    (hws : ∀ w ∈ ws, ∀ a' U, s.WarmedH U.vm → w.before a' U = true) (hcode : Cond.codeWith y bytes maxL ret hh ∈ ws) (hinit : ∀ a' U, s.WarmedH U.vm → (Cond.initialized y.cls).before a' U = true) :
    vx_Back l R p e below s sargs y len W9 (PreOf R mc ms Pc) (PostOf Qc mc ms free) (vx_Post XC mc ms free) := by
  intro m meth c A g ig mk a X hg hsize hdg hW hn hp
  have h1 : (headSpec ws rm).pre.before a A.U = true := atoms_intro fun w hw => hws w hw _ _ X.warmed
  have h2 : (Cond.codeWith y bytes maxL ret hh).before a A.U = true := hws _ hcode _ _ X.warmed
  have h3 : (Cond.initialized y.cls).before a A.U = true := hinit _ _ X.warmed
  have h4 : A.cells + (headSpec ws rm).room.cells ≤ R.cells := by rw [show (headSpec ws rm).room.cells = mc from hrc]; exact hp.1
  have h5 : A.slots + (headSpec ws rm).room.slots ≤ R.slots := by rw [show (headSpec ws rm).room.slots = ms from hrs]; exact hp.2.1
  have hPc : Pc a (A.U.calling g mk a) := hblind _ _ _ _ hp.2.2
  obtain ⟨U, Ls, c0, s0⟩ := A
  dsimp only [Pt.U, Pt.locs, Pt.cells, Pt.slots] at h1 h2 h3 h4 h5 X hn hPc ⊢
  obtain ⟨m9, methY, cY, hn9, hmY, hcY, -, hlY, -⟩ := Cond.codeWith_spec h2
  cases Option.some.inj (hn9.symm.trans hn)
  obtain ⟨kY, hkY, -⟩ := className_of_methodNamed hn
  have hinitY : kY.init = .initialized := Cond.initialized_spec (findClass_of_methodNamed hn) hkY h3
  have h : At U g.method c below := by rw [hg]; exact X.here
  have hlocals9 : W9 + (maxL + 11) + (headSpec ws rm).room.locals ≤ R.locals := hlocals
  have happ : (headSpec ws rm).appliesLoose y e.platform (U.calling g mk a) = true :=
    Spec.appliesLoose_calling (g := g) h hdg hn hkY hinitY
      (X.room_calling (g := g) (R' := (headSpec ws rm).room) hsize hmY hcY hframes (by rw [hlY]; omega) h4 h5) h1
  obtain ⟨mid, hmid⟩ := h.above
  have hfr : (U.setTop g).frames = (.java g :: mid) ++ below := by rw [State.frames_setTop' g h.top, hmid]; rfl
  obtain ⟨o, s₂, hsteps, -, hend, hq⟩ := Steps.callFree hM p X.admits X.cas X.clock (acts := []) hfr happ hPc trivial
  have hq' : vx_Q Qc XC mc ms free a (U.calling g mk a) o s₂ := hq
  rw [State.frames_setTop' g h.top] at hend
  obtain ⟨g₀, hg0⟩ := Option.isSome_iff_exists.mp h.top
  obtain ⟨r, hr⟩ := State.topJava?_eq_some.mp hg0
  have hr' : (({ U with heap := s₂.heap, slotsUsed := s₂.slotsUsed } : State).setVm s₂.vm).frames = .java g₀ :: r := hr
  rcases hq' with ⟨hqc, L, hfe, hL⟩ | ⟨q, rfl, E, ce, L, hx, hce, hcv, hcl, hW₂, hsm, hL⟩
  · obtain ⟨⟨v, rfl⟩, hW₂, e2, q2, q3, q4, q5, q6⟩ := id hfe
    have e3 : s₂ = ({ (U.calling g mk a).setFrames s₂.frames with heap := s₂.heap, slotsUsed := s₂.slotsUsed } : State).setVm s₂.vm := by
      have : s₂ = ({ s₂ with vm := (U.calling g mk a).vm } : State).setVm s₂.vm := rfl
      rw [e2] at this
      exact this
    obtain ⟨c₂, i₂, len₂, hc₂, hd₂, hf₂⟩ := hend
    have hW' : U.WarmedH s₂.vm := hW₂
    have hcc : c₂ = c := by
      have h1 : s₂.code? g.method = U.code? g.method := by
        rw [State.code?_eq, State.code?_eq, hW'.alike.method?]
      exact Option.some.inj (hc₂.symm.trans (h1.trans h.code))
    subst hcc
    have hlen : len₂ = len := by rw [hdg] at hd₂; cases hd₂; rfl
    subst hlen
    have hs₂ : s₂ = (({ U with heap := s₂.heap, slotsUsed := s₂.slotsUsed } : State).setVm s₂.vm).setTop { g with pc := g.pc + len₂, stack := v.toList ++ g.stack } := by
      refine e3.trans ?_
      rw [hf₂, State.calling_eq h.top, State.setFrames_setFrames, State.setTop_of_frames _ hr', hr]
      rfl
    have hsame : U.sameButNew ({ U with heap := s₂.heap, slotsUsed := s₂.slotsUsed } : State) L mc ms := by
      refine ⟨?_, q2, q3, q4, q5, q6⟩
      obtain ⟨t, ht, -⟩ := State.frames_cons hr
      show ({ U with heap := s₂.heap, slotsUsed := s₂.slotsUsed } : State) = { U.setFrames U.frames with heap := s₂.heap, slotsUsed := s₂.slotsUsed }
      rw [State.setFrames_self ht]
    subst hg
    refine Or.inl ⟨v, ⟨(({ U with heap := s₂.heap, slotsUsed := s₂.slotsUsed } : State).setVm s₂.vm), Ls ++ L, c0 + mc, s0 + ms⟩,
      ⟨X.admits, X.cas, X.clock, X.frames, X.room, X.hears, X.method, X.code, (X.here.setHeapUsed s₂.heap s₂.slotsUsed).setVm hW'.alike, X.tail, State.WarmedH.trans X.warmed hW', X.limits, X.bytes, X.same.trans (hsame.setVm s.vm)⟩,
      ⟨g, mk, s₂, L, rfl, rfl, hqc, rfl, hL, rfl, rfl⟩, ?_⟩
    show Steps p.tables e below _ ((({ U with heap := s₂.heap, slotsUsed := s₂.slotsUsed } : State).setVm s₂.vm).setTop { g with pc := g.pc + len₂, stack := v.toList ++ g.stack })
    rw [← hs₂]
    exact hsteps
  · obtain ⟨e2, q2, q3, q4, q5, q6⟩ := id hsm
    have e3 : s₂ = ({ (U.calling g mk a).setFrames s₂.frames with heap := s₂.heap, slotsUsed := s₂.slotsUsed } : State).setVm s₂.vm := by
      have : s₂ = ({ s₂ with vm := (U.calling g mk a).vm } : State).setVm s₂.vm := rfl
      rw [e2] at this
      exact this
    have hf₂ : s₂.frames = .throwing q :: .java g :: U.frames.tail := hend
    have hW' : U.WarmedH s₂.vm := hW₂
    have hs₂ : s₂ = ((({ U with heap := s₂.heap, slotsUsed := s₂.slotsUsed } : State).setVm s₂.vm).setTop g).pushFrame (.throwing q) := by
      refine e3.trans ?_
      rw [hf₂, State.calling_eq h.top, State.setFrames_setFrames, State.pushFrame, State.frames_setTop _ hr', State.setTop_of_frames _ hr', State.setFrames_setFrames, hr]
      rfl
    have hsame : U.sameButNew ({ U with heap := s₂.heap, slotsUsed := s₂.slotsUsed } : State) L mc ms := by
      refine ⟨?_, q2, q3, q4, q5, q6⟩
      obtain ⟨t, ht, -⟩ := State.frames_cons hr
      show ({ U with heap := s₂.heap, slotsUsed := s₂.slotsUsed } : State) = { U.setFrames U.frames with heap := s₂.heap, slotsUsed := s₂.slotsUsed }
      rw [State.setFrames_self ht]
    subst hg
    refine Or.inr ⟨q, ⟨(({ U with heap := s₂.heap, slotsUsed := s₂.slotsUsed } : State).setVm s₂.vm), Ls ++ L, c0 + mc, s0 + ms⟩,
      ⟨X.admits, X.cas, X.clock, X.frames, X.room, X.hears, X.method, X.code, (X.here.setHeapUsed s₂.heap s₂.slotsUsed).setVm hW'.alike, X.tail, State.WarmedH.trans X.warmed hW', X.limits, X.bytes, X.same.trans (hsame.setVm s.vm)⟩,
      ⟨g, mk, s₂, L, E, ce, rfl, rfl, hx, hce, hcv, hcl, rfl, hL, rfl, rfl⟩, ?_⟩
    show Steps p.tables e below _ (((({ U with heap := s₂.heap, slotsUsed := s₂.slotsUsed } : State).setVm s₂.vm).setTop g).pushFrame (.throwing q))
    rw [← hs₂]
    exact hsteps
end
variable {p : Program} {l : Launch} {e : Env} {R : Room} {s : State} {m : MethodId} {args : Array Value} {below : List Frame} {meth : Method} {c : Code} {T : State} {H : Heap} {locs : List Loc} {cells slots : Nat}
theorem vx_callVX (X : Stand p l e R s m args below meth c T locs cells slots) (hexec : p.tables.exec = Jvm.exec) {own C : String} {index : Nat} {y : MethodName} {bytes : ByteArray} {maxL : Nat} {ret : Option FieldType} {hh : List (Nat × Nat × Nat × Nat)}
    (hown : s.vm.findClass own = some m.cls) (hlink : (Cond.methodLink own index y).before args s = true) (hinst : (Cond.instanceMethod y).before args s = true) (hsel : (Cond.selects C y y).before args s = true)
    (hcode : (Cond.codeWith y bytes maxL ret hh).before args s = true) (hy : y.cls ≠ "java/lang/invoke/MethodHandle" ∧ y.cls ≠ "java/lang/invoke/VarHandle")
    {W9 : Nat} {Pre : Pt → Array Value → Prop} {Post : Pt → Array Value → Option Value → Pt → Prop} {PostX : Pt → Array Value → Addr → Pt → Prop} (hK : vx_Back l R p e below s args y 3 W9 Pre Post PostX)
    {b : Addr} {cellB : Cell} (hcell : T.heap[b]? = some cellB) (hobj : cellB.vm.isStatics = false) (hcls : s.vm.findClass C = some cellB.cls)
    {g : JFrame} (hg : g.method = m) (hsize : g.locals.size = c.maxLocals) {argsL rest : List Value} (hlen : ∀ sig, parseMethodDescriptor y.desc = some sig → argsL.length = sig.parameters.length)
    (hstack : g.stack = argsL.reverse ++ .ref b :: rest) (hW : 2 * g.monitorRoom + (rest.map fun v => v.category).sum ≤ W9) (hdg : decode c.code g.pc = .ok (.invokevirtual index, 3))
    (hpre : ∀ vm₁, s.WarmedH vm₁ → Pre ⟨T.setVm vm₁, locs, cells, slots⟩ (Value.ref b :: argsL).toArray) :
    (∃ (v : Option Value) (vm₁ : Vm) (B : Pt), s.WarmedH vm₁ ∧ Stand p l e R s m args below meth c B.U B.locs B.cells B.slots ∧ Post ⟨T.setVm vm₁, locs, cells, slots⟩ (Value.ref b :: argsL).toArray v B ∧
      ∀ target, Steps p.tables e below (B.U.setTop { g with pc := g.pc + 3, stack := v.toList ++ rest }) target → Steps p.tables e below (T.setTop g) target) ∨
    (∃ (q : Addr) (vm₁ : Vm) (B : Pt), s.WarmedH vm₁ ∧ Stand p l e R s m args below meth c B.U B.locs B.cells B.slots ∧ PostX ⟨T.setVm vm₁, locs, cells, slots⟩ (Value.ref b :: argsL).toArray q B ∧
      Steps p.tables e below (T.setTop g) ((B.U.setTop { g with stack := rest }).pushFrame (.throwing q))) := by
  obtain ⟨mk, methM, hnamed, hmethM, hstM, habM⟩ := Cond.instanceMethod_spec hinst
  obtain ⟨m8, methM', cM, hn8, hmethM', -, -, -, -, -, -, hsigM⟩ := Cond.codeWith_spec hcode
  cases Option.some.inj (hn8.symm.trans hnamed)
  cases hmethM.symm.trans hmethM'
  obtain ⟨c2, r2, m2, q1, q2, q3, q4, kP, hkP, hkPi⟩ := Cond.selects_spec hsel
  cases hcls.symm.trans q1
  cases (State.methodFound?_of_named hnamed hy).symm.trans q2
  cases hnamed.symm.trans q3
  have hselP : selectMethod e.platform s.vm cellB.cls mk = .method mk := by rw [Launch.admits_selectMethod X.admits]; exact q4
  obtain ⟨vm₁, X₁, hstep₁⟩ := X.invokevirtual hexec hown hlink hnamed hmethM hstM hkP hkPi hy (a := b) (cell := cellB) hcell
    (fun z h => by rw [h] at hobj; cases hobj) hselP hmethM habM hkP hkPi (g := g) hg (argsL := argsL) (rest := rest) (hlen _ hsigM) hstack hdg
  rcases hK m meth c ⟨T.setVm vm₁, locs, cells, slots⟩ { g with stack := rest } (.invokevirtual index) mk (Value.ref b :: argsL).toArray X₁ hg hsize hdg hW (X₁.named hnamed) (hpre vm₁ X₁.warmed) with ⟨v, B, X', hpost, hsteps⟩ | ⟨q, B, X', hpost, hsteps⟩
  · exact Or.inl ⟨v, vm₁, B, X₁.warmed, X', hpost, fun target h => hstep₁ _ fun acts => by rw [doInvoke_state]; exact hsteps.trans h⟩
  · exact Or.inr ⟨q, vm₁, B, X₁.warmed, X', hpost, hstep₁ _ fun acts => by rw [doInvoke_state]; exact hsteps⟩
theorem vx_callSX (X : Stand p l e R s m args below meth c T locs cells slots) (hexec : p.tables.exec = Jvm.exec) {own : String} {index : Nat} {y : MethodName} {bytes : ByteArray} {maxL : Nat} {ret : Option FieldType} {hh : List (Nat × Nat × Nat × Nat)}
    (hown : s.vm.findClass own = some m.cls) (hlink : (Cond.methodLink own index y).before args s = true) (hstat : (Cond.static y).before args s = true) (hinit : (Cond.initialized y.cls).before args s = true)
    (hcode : (Cond.codeWith y bytes maxL ret hh).before args s = true) (hy : y.cls ≠ "java/lang/invoke/MethodHandle" ∧ y.cls ≠ "java/lang/invoke/VarHandle")
    {W9 : Nat} {Pre : Pt → Array Value → Prop} {Post : Pt → Array Value → Option Value → Pt → Prop} {PostX : Pt → Array Value → Addr → Pt → Prop} (hK : vx_Back l R p e below s args y 3 W9 Pre Post PostX)
    {g : JFrame} (hg : g.method = m) (hsize : g.locals.size = c.maxLocals) {argsL rest : List Value} (hlen : ∀ sig, parseMethodDescriptor y.desc = some sig → argsL.length = sig.parameters.length)
    (hstack : g.stack = argsL.reverse ++ rest) (hW : 2 * g.monitorRoom + (rest.map fun v => v.category).sum ≤ W9) (hdg : decode c.code g.pc = .ok (.invokestatic index, 3))
    (hpre : ∀ vm₁, s.WarmedH vm₁ → Pre ⟨T.setVm vm₁, locs, cells, slots⟩ argsL.toArray) :
    (∃ (v : Option Value) (vm₁ : Vm) (B : Pt), s.WarmedH vm₁ ∧ Stand p l e R s m args below meth c B.U B.locs B.cells B.slots ∧ Post ⟨T.setVm vm₁, locs, cells, slots⟩ argsL.toArray v B ∧
      ∀ target, Steps p.tables e below (B.U.setTop { g with pc := g.pc + 3, stack := v.toList ++ rest }) target → Steps p.tables e below (T.setTop g) target) ∨
    (∃ (q : Addr) (vm₁ : Vm) (B : Pt), s.WarmedH vm₁ ∧ Stand p l e R s m args below meth c B.U B.locs B.cells B.slots ∧ PostX ⟨T.setVm vm₁, locs, cells, slots⟩ argsL.toArray q B ∧
      Steps p.tables e below (T.setTop g) ((B.U.setTop { g with stack := rest }).pushFrame (.throwing q))) := by
  obtain ⟨mk, methM, cM, hnamed, hmethM, -, -, -, -, -, -, hsigM⟩ := Cond.codeWith_spec hcode
  have hstatic : methM.isStatic = true := Cond.static_spec hnamed hmethM hstat
  obtain ⟨kP, hkP, -⟩ := className_of_methodNamed hnamed
  have hinitP : kP.init = .initialized := Cond.initialized_spec (findClass_of_methodNamed hnamed) hkP hinit
  obtain ⟨vm₁, X₁, hstep₁⟩ := X.invokestatic hexec hown hlink hnamed hmethM hstatic hkP hinitP hy (g := g) hg (argsL := argsL) (rest := rest) (hlen _ hsigM) hstack hdg
  rcases hK m meth c ⟨T.setVm vm₁, locs, cells, slots⟩ { g with stack := rest } (.invokestatic index) mk argsL.toArray X₁ hg hsize hdg hW (X₁.named hnamed) (hpre vm₁ X₁.warmed) with ⟨v, B, X', hpost, hsteps⟩ | ⟨q, B, X', hpost, hsteps⟩
  · exact Or.inl ⟨v, vm₁, B, X₁.warmed, X', hpost, fun target h => hstep₁ _ fun acts => by rw [doInvoke_state]; exact hsteps.trans h⟩
  · exact Or.inr ⟨q, vm₁, B, X₁.warmed, X', hpost, hstep₁ _ fun acts => by rw [doInvoke_state]; exact hsteps⟩
theorem vx_callVW (X : Stand p l e R s m args below meth c T locs cells slots) (hexec : p.tables.exec = Jvm.exec) {own C : String} {index : Nat} {y : MethodName} {bytes : ByteArray} {maxL : Nat} {ret : Option FieldType} {hh : List (Nat × Nat × Nat × Nat)}
    (hown : s.vm.findClass own = some m.cls) (hlink : (Cond.methodLink own index y).before args s = true) (hinst : (Cond.instanceMethod y).before args s = true) (hsel : (Cond.selects C y y).before args s = true)
    (hcode : (Cond.codeWith y bytes maxL ret hh).before args s = true) (hy : y.cls ≠ "java/lang/invoke/MethodHandle" ∧ y.cls ≠ "java/lang/invoke/VarHandle")
    {W9 : Nat} {Pre : Pt → Array Value → Prop} {Post : Pt → Array Value → Option Value → Pt → Prop} (hK : Back l R p e below s args y 3 W9 Pre Post)
    {b : Addr} {cellB : Cell} (hcell : T.heap[b]? = some cellB) (hobj : cellB.vm.isStatics = false) (hcls : s.vm.findClass C = some cellB.cls)
    {g : JFrame} (hg : g.method = m) (hsize : g.locals.size = c.maxLocals) {argsL rest : List Value} (hlen : ∀ sig, parseMethodDescriptor y.desc = some sig → argsL.length = sig.parameters.length)
    (hstack : g.stack = argsL.reverse ++ .ref b :: rest) (hW : 2 * g.monitorRoom + (rest.map fun v => v.category).sum ≤ W9) (hdg : decode c.code g.pc = .ok (.invokevirtual index, 3))
    (hpre : ∀ vm₁, s.WarmedH vm₁ → Pre ⟨T.setVm vm₁, locs, cells, slots⟩ (Value.ref b :: argsL).toArray) :
    ∃ (v : Option Value) (vm₁ : Vm) (B : Pt), s.WarmedH vm₁ ∧ Stand p l e R s m args below meth c B.U B.locs B.cells B.slots ∧ Post ⟨T.setVm vm₁, locs, cells, slots⟩ (Value.ref b :: argsL).toArray v B ∧
      ∀ target, Steps p.tables e below (B.U.setTop { g with pc := g.pc + 3, stack := v.toList ++ rest }) target → Steps p.tables e below (T.setTop g) target := by
  obtain ⟨mk, methM, hnamed, hmethM, hstM, habM⟩ := Cond.instanceMethod_spec hinst
  obtain ⟨m8, methM', cM, hn8, hmethM', -, -, -, -, -, -, hsigM⟩ := Cond.codeWith_spec hcode
  cases Option.some.inj (hn8.symm.trans hnamed)
  cases hmethM.symm.trans hmethM'
  obtain ⟨c2, r2, m2, q1, q2, q3, q4, kP, hkP, hkPi⟩ := Cond.selects_spec hsel
  cases hcls.symm.trans q1
  cases (State.methodFound?_of_named hnamed hy).symm.trans q2
  cases hnamed.symm.trans q3
  have hselP : selectMethod e.platform s.vm cellB.cls mk = .method mk := by rw [Launch.admits_selectMethod X.admits]; exact q4
  obtain ⟨vm₁, X₁, hstep₁⟩ := X.invokevirtual hexec hown hlink hnamed hmethM hstM hkP hkPi hy (a := b) (cell := cellB) hcell
    (fun z h => by rw [h] at hobj; cases hobj) hselP hmethM habM hkP hkPi (g := g) hg (argsL := argsL) (rest := rest) (hlen _ hsigM) hstack hdg
  obtain ⟨v, B, X', hpost, hsteps⟩ := hK m meth c ⟨T.setVm vm₁, locs, cells, slots⟩ { g with stack := rest } (.invokevirtual index) mk (Value.ref b :: argsL).toArray X₁ hg hsize hdg hW (X₁.named hnamed) (hpre vm₁ X₁.warmed)
  exact ⟨v, vm₁, B, X₁.warmed, X', hpost, fun target h => hstep₁ _ fun acts => by rw [doInvoke_state]; exact hsteps.trans h⟩
abbrev vx_CVW (R : Room) (s : State) (args : Array Value) (own C : String) (index : Nat) (y : MethodName) (bytes : ByteArray) (maxL : Nat) (ret : Option FieldType) (hh : List (Nat × Nat × Nat × Nat)) (ws : List Cond) (rm : Room) (mc ms n : Nat) : Prop :=
  (rm.cells = mc ∧ rm.slots = ms ∧ rm.frames + 1 ≤ R.frames ∧ 8 + (maxL + 11) + rm.locals ≤ R.locals ∧ (∀ w ∈ ws, ∀ (a' : Array Value) (U : State), s.WarmedH U.vm → w.before a' U = true) ∧ Cond.codeWith y bytes maxL ret hh ∈ ws) ∧
  (Cond.codeWith y bytes maxL ret hh).before args s = true ∧ (Cond.initialized y.cls).before args s = true ∧ (y.cls ≠ "java/lang/invoke/MethodHandle" ∧ y.cls ≠ "java/lang/invoke/VarHandle") ∧
  (∀ sig, parseMethodDescriptor y.desc = some sig → n = sig.parameters.length) ∧ (Cond.methodLink own index y).before args s = true ∧ (Cond.instanceMethod y).before args s = true ∧ (Cond.selects C y y).before args s = true
theorem vx_cwVW {own C : String} {index maxL mc ms : Nat} {y : MethodName} {bytes : ByteArray} {ret : Option FieldType} {hh : List (Nat × Nat × Nat × Nat)} {Ts ws ws' : List Cond} {rm : Room} (n : Nat) (ht : ∀ w ∈ Ts, w.before args s = true) (hT : GoodIn Ts (wsV own index C y ws)) (hw : ws = Cond.codeWith y bytes maxL ret hh :: ws') (hrc : rm.cells = mc) (hrs : rm.slots = ms)
    (hd : y.cls = C ∧ y.cls ≠ "java/lang/invoke/MethodHandle" ∧ y.cls ≠ "java/lang/invoke/VarHandle" ∧ (parseMethodDescriptor y.desc).map (fun d => d.parameters.length) = some n) (hR : rm.frames + 1 ≤ R.frames ∧ 8 + (maxL + 11) + rm.locals ≤ R.locals) :
    vx_CVW R s args own C index y bytes maxL ret hh ws rm mc ms n := by
  obtain ⟨hC, hd⟩ := hd
  subst hC
  have ok : ∀ w ∈ wsV own index y.cls y ws, w.before args s = true := fun w h => ht w (hT w h).1
  have hG : GoodIn Ts ws := fun w h => hT w (by unfold wsV; exact List.mem_append_right _ h)
  have hc : Cond.codeWith y bytes maxL ret hh ∈ ws := by rw [hw]; exact List.mem_cons_self
  refine ⟨⟨hrc, hrs, hR.1, hR.2, pay_in ht hG, hc⟩, ht _ (hG _ hc).1, ok _ (by simp [wsV]), ⟨hd.1, hd.2.1⟩, fun sig h => ?_, ok _ (by simp [wsV]), ok _ (by simp [wsV]), ok _ (by simp [wsV])⟩
  have h2 := hd.2.2
  rw [h] at h2
  exact (Option.some.inj h2).symm
theorem vx_runVW {y : MethodName} {bytes cc : ByteArray} {maxL nL mc ms n index : Nat} {ret : Option FieldType} {hh : List (Nat × Nat × Nat × Nat)} {ws : List Cond} {rm : Room} {Pc : Array Value → State → Prop} {Qc : Array Value → State → Outcome → State → Prop} {free : Addr → Prop} {Ts : List Cond} {own C : String} {b : Addr} {As rest : List Value} {g : JFrame}
    (S : CallFix p m c cc nL s args Ts own) (hM : Met l y ws rm Pc Qc mc ms free) (cw : vx_CVW R s args own C index y bytes maxL ret hh ws rm mc ms n) (hp : PreV s H C b Pc As)
    (hg : g.method = m) (hn : As.length = n) (hsize : g.locals.size = nL) (hstack : g.stack = As.reverse ++ .ref b :: rest) (hW : 2 * g.monitorRoom + (rest.map fun v => v.category).sum ≤ 8) (hdg : decode cc g.pc = .ok (.invokevirtual index, 3)) (hf : cells + mc ≤ R.cells ∧ slots + ms ≤ R.slots) :
    va_Run p l e R s m args below meth c H locs cells slots mc ms g rest (Qc (Value.ref b :: As).toArray) free := by
  obtain ⟨⟨hrc, hrs, hfr, hlo, hws, hcw⟩, hcode, hini, hy, hlen, hl, hin, hse⟩ := cw
  have hK : Back l R p e below s args y 3 8 (PreOf R mc ms Pc) (PostOf Qc mc ms free) := va_backW (hh := hh) (bytes := bytes) (maxL := maxL) (ret := ret) hM hp.1 hrc hrs hfr hlo hws hcw (fun a' U hW => word_at hW (Or.inl (by first | rfl | simp [Cond.onTables, Cond.keeps, Cond.steady])) hini)
  obtain ⟨hx, hb, hml, ho, -⟩ := S
  obtain ⟨-, ⟨cellB, hcB, hoB, hclB⟩, hPc⟩ := hp
  intro T hT X
  obtain ⟨v, vm₁, ⟨U', l2, c2, s2⟩, hW₁, X', ⟨g', mk, t, L, e1, e2, hq, h1, hL, h2, h3⟩, st⟩ := vx_callVW X hx (C := C) (hh := hh) (bytes := bytes) (maxL := maxL) (ret := ret) ho hl hin hse hcode hy hK (by rw [hT]; exact hcB) hoB hclB hg (hsize.trans hml.symm) (argsL := As) (rest := rest) (fun sig h => hn.trans (hlen sig h)) hstack hW (by rw [hb]; exact hdg)
    (fun vm₁ hW₁ => ⟨hf.1, hf.2, hPc (T.setVm vm₁) hT hW₁⟩)
  dsimp only [Pt.U, Pt.locs, Pt.cells, Pt.slots] at X' e1 e2 h1 h2 h3 st
  subst h1; subst h2; subst h3
  exact ⟨v, (T.setVm vm₁).calling g' mk (Value.ref b :: As).toArray, t, U', L, hT, X', hL, e1, e2, hq, st⟩
section
variable {y : MethodName} {bytes cc : ByteArray} {maxL nL mc ms n index : Nat} {ret : Option FieldType} {ws : List Cond} {rm : Room} {Pc : Array Value → State → Prop} {Qc : Array Value → State → Outcome → State → Prop} {XC : String → State → State → Prop} {free : Addr → Prop} {Ts : List Cond} {own C : String} {b : Addr} {As rest : List Value} {g : JFrame}
theorem vx_runVX {hh : List (Nat × Nat × Nat × Nat)} (S : CallFix p m c cc nL s args Ts own) (hM : vx_Met l y ws rm Pc Qc XC mc ms free) (cw : vx_CVW R s args own C index y bytes maxL ret hh ws rm mc ms n) (hp : PreV s H C b Pc As)
    (hg : g.method = m) (hn : As.length = n) (hsize : g.locals.size = nL) (hstack : g.stack = As.reverse ++ .ref b :: rest) (hW : 2 * g.monitorRoom + (rest.map fun v => v.category).sum ≤ 8) (hdg : decode cc g.pc = .ok (.invokevirtual index, 3)) (hf : cells + mc ≤ R.cells ∧ slots + ms ≤ R.slots) :
    vx_Run p l e R s m args below meth c H locs cells slots mc ms g rest (Qc (Value.ref b :: As).toArray) XC free := by
  obtain ⟨⟨hrc, hrs, hfr, hlo, hws, hcw⟩, hcode, hini, hy, hlen, hl, hin, hse⟩ := cw
  have hK : vx_Back l R p e below s args y 3 8 (PreOf R mc ms Pc) (PostOf Qc mc ms free) (vx_Post XC mc ms free) := vx_backW (hh := hh) (bytes := bytes) (maxL := maxL) (ret := ret) hM hp.1 hrc hrs hfr hlo hws hcw (fun a' U hW => word_at hW (Or.inl (by first | rfl | simp [Cond.onTables, Cond.keeps, Cond.steady])) hini)
  obtain ⟨hx, hb, hml, ho, -⟩ := S
  obtain ⟨-, ⟨cellB, hcB, hoB, hclB⟩, hPc⟩ := hp
  intro T hT X
  rcases vx_callVX X hx (C := C) (hh := hh) (bytes := bytes) (maxL := maxL) (ret := ret) ho hl hin hse hcode hy hK (by rw [hT]; exact hcB) hoB hclB hg (hsize.trans hml.symm) (argsL := As) (rest := rest) (fun sig h => hn.trans (hlen sig h)) hstack hW (by rw [hb]; exact hdg)
    (fun vm₁ hW₁ => ⟨hf.1, hf.2, hPc (T.setVm vm₁) hT hW₁⟩) with ⟨v, vm₁, ⟨U', l2, c2, s2⟩, hW₁, X', ⟨g', mk, t, L, e1, e2, hq, h1, hL, h2, h3⟩, st⟩ | ⟨q, vm₁, ⟨U', l2, c2, s2⟩, hW₁, X', ⟨g', mk, t, L, E, ce, e1, e2, hq, hce, hcv, hcl, h1, hL, h2, h3⟩, st⟩
  · dsimp only [Pt.U, Pt.locs, Pt.cells, Pt.slots] at X' e1 e2 h1 h2 h3 st
    subst h1; subst h2; subst h3
    exact Or.inl ⟨v, (T.setVm vm₁).calling g' mk (Value.ref b :: As).toArray, t, U', L, hT, X', hL, e1, e2, hq, st⟩
  · dsimp only [Pt.U, Pt.locs, Pt.cells, Pt.slots] at X' e1 e2 h1 h2 h3 st hcl
    subst h1; subst h2; subst h3
    exact Or.inr ⟨q, (T.setVm vm₁).calling g' mk (Value.ref b :: As).toArray, t, U', L, E, ce, hT, X', hL, e1, e2, hq, hce, hcv, vx_cls hW₁ hcl, st⟩
theorem vx_runSX {hh : List (Nat × Nat × Nat × Nat)} (S : CallFix p m c cc nL s args Ts own) (hM : vx_Met l y ws rm Pc Qc XC mc ms free) (cw : vx_CSW R s args own index y bytes maxL ret hh ws rm mc ms n) (hp : PreS s H Pc As)
    (hg : g.method = m) (hn : As.length = n) (hsize : g.locals.size = nL) (hstack : g.stack = As.reverse ++ rest) (hW : 2 * g.monitorRoom + (rest.map fun v => v.category).sum ≤ 8) (hdg : decode cc g.pc = .ok (.invokestatic index, 3)) (hf : cells + mc ≤ R.cells ∧ slots + ms ≤ R.slots) :
    vx_Run p l e R s m args below meth c H locs cells slots mc ms g rest (Qc As.toArray) XC free := by
  obtain ⟨⟨hrc, hrs, hfr, hlo, hws, hcw⟩, hcode, hini, hy, hlen, hl, hstt⟩ := cw
  have hK : vx_Back l R p e below s args y 3 8 (PreOf R mc ms Pc) (PostOf Qc mc ms free) (vx_Post XC mc ms free) := vx_backW (hh := hh) (bytes := bytes) (maxL := maxL) (ret := ret) hM hp.1 hrc hrs hfr hlo hws hcw (fun a' U hW => word_at hW (Or.inl (by first | rfl | simp [Cond.onTables, Cond.keeps, Cond.steady])) hini)
  obtain ⟨hx, hb, hml, ho, -⟩ := S
  intro T hT X
  rcases vx_callSX X hx (hh := hh) (bytes := bytes) (maxL := maxL) (ret := ret) ho hl hstt hini hcode hy hK hg (hsize.trans hml.symm) (argsL := As) (rest := rest) (fun sig h => hn.trans (hlen sig h)) hstack hW (by rw [hb]; exact hdg)
    (fun vm₁ hW₁ => ⟨hf.1, hf.2, hp.2 (T.setVm vm₁) hT hW₁⟩) with ⟨v, vm₁, ⟨U', l2, c2, s2⟩, hW₁, X', ⟨g', mk, t, L, e1, e2, hq, h1, hL, h2, h3⟩, st⟩ | ⟨q, vm₁, ⟨U', l2, c2, s2⟩, hW₁, X', ⟨g', mk, t, L, E, ce, e1, e2, hq, hce, hcv, hcl, h1, hL, h2, h3⟩, st⟩
  · dsimp only [Pt.U, Pt.locs, Pt.cells, Pt.slots] at X' e1 e2 h1 h2 h3 st
    subst h1; subst h2; subst h3
    exact Or.inl ⟨v, (T.setVm vm₁).calling g' mk As.toArray, t, U', L, hT, X', hL, e1, e2, hq, st⟩
  · dsimp only [Pt.U, Pt.locs, Pt.cells, Pt.slots] at X' e1 e2 h1 h2 h3 st hcl
    subst h1; subst h2; subst h3
    exact Or.inr ⟨q, (T.setVm vm₁).calling g' mk As.toArray, t, U', L, E, ce, hT, X', hL, e1, e2, hq, hce, hcv, vx_cls hW₁ hcl, st⟩
end
end VXH
theorem vx_ofWH {l : Launch} {y : MethodName} {ws ws' : List Cond} {rm : Room} {Pc : Array Value → State → Prop} {Qc : Array Value → State → Outcome → State → Prop} {XC : String → State → State → Prop} {mc ms : Nat} {free : Addr → Prop} {cc : ByteArray} {maxL : Nat} {ret : Option FieldType} {hh : List (Nat × Nat × Nat × Nat)}
    (hy : plainName y.cls = true) (hw : ws = Cond.codeWith y cc maxL ret hh :: ws')
    (body : ∀ p e s m args below meth c s₁, BodyLoose p l y (headSpec ws rm) cc maxL ret e s m args below meth c s₁ → c.maxLocals = maxL → Pc args s →
      W p l e (headSpec ws rm).room s m args below meth c s.heap [] 0 0 (vx_MQ below Qc XC args s mc ms free) (entryFrame m args maxL)) : vx_Met l y ws rm Pc Qc XC mc ms free := by
  refine MetFree.of_bodyS (code := cc) (maxLocals := maxL) (ret := ret) hy ?_ ?_
  · intro args s m h hn
    obtain ⟨m9, meth, c, hn9, h1, h2, h3, h4, -, h5, h6, -⟩ := Cond.codeWith_spec (atoms_spec (ws := ws) h _ (by rw [hw]; exact List.mem_cons_self))
    cases hn.symm.trans hn9
    exact ⟨meth, c, h1, h2, h3, h4, h5, h6⟩
  · intro p e s m args below meth c s₁ B hml hP _
    have hh0 : s₁.heap = s.heap := by rw [B.state]; rfl
    obtain ⟨t, a1, o, b1, b2, b3⟩ := body p e s m args below meth c s₁ B hml hP s₁ hh0 (Stand.of_body B)
    exact ⟨t, o, a1, b1, b2, b3⟩
/-! ===== END ===== -/
end
section
/-! ===== BEGIN printed: names, fields, word lists, decode rows ===== -/
def RX0 : String := "Queuefloat$Limits"
def TX0 : u_T := fun k => match k with
  | 0 => ("Queuefloat$Limits", "floorOf", "[I", true)
  | _ => ("Queuefloat$Limits", "boundOf", "[I", true)
def tyX0 : Nat → FieldType := fun k => match k with
  | 0 => .array .int
  | _ => .array .int
abbrev wsX00 : List Cond := u_ws RX0 TX0 2
theorem nmX0 : ∀ a, a < 2 → ∀ b, b < 2 → a ≠ b → (TX0 a).2.1 ≠ (TX0 b).2.1 := by decide +kernel
theorem tyX0_ok : ∀ k, k < 2 → parseFieldDescriptor (TX0 k).2.2.1 = some (tyX0 k) := by decide +kernel
abbrev cX0_init : ByteArray := prog_2_method_1_code
def yX0_init : MethodName := ⟨RX0, "<init>", "()V"⟩
abbrev cX0_allow : ByteArray := prog_2_method_2_code
def yX0_allow : MethodName := ⟨RX0, "allow", "(LQueuefloat$Sums;)Z"⟩
def RX1 : String := "Queuefloat$Loans"
def TX1 : u_T := fun k => match k with
  | 0 => ("Queuefloat$Loans", "lender", "[I", true)
  | 1 => ("Queuefloat$Loans", "borrower", "[I", true)
  | 2 => ("Queuefloat$Loans", "due", "[I", true)
  | 3 => ("Queuefloat$Loans", "pledge", "[I", true)
  | 4 => ("Queuefloat$Loans", "made", "I", false)
  | _ => ("Queuefloat$Loans", "ended", "I", false)
def tyX1 : Nat → FieldType := fun k => match k with
  | 0 => .array .int
  | 1 => .array .int
  | 2 => .array .int
  | 3 => .array .int
  | 4 => .int
  | _ => .int
abbrev wsX10 : List Cond := u_ws RX1 TX1 6
theorem nmX1 : ∀ a, a < 6 → ∀ b, b < 6 → a ≠ b → (TX1 a).2.1 ≠ (TX1 b).2.1 := by decide +kernel
theorem tyX1_ok : ∀ k, k < 6 → parseFieldDescriptor (TX1 k).2.2.1 = some (tyX1 k) := by decide +kernel
abbrev cX1_init : ByteArray := prog_3_method_1_code
def yX1_init : MethodName := ⟨RX1, "<init>", "()V"⟩
abbrev cX1_enter : ByteArray := prog_3_method_2_code
def yX1_enter : MethodName := ⟨RX1, "enter", "(IIII)I"⟩
def RX2 : String := "Queuefloat$Payments"
def TX2 : u_T := fun k => match k with
  | 0 => ("Queuefloat$Payments", "from", "[I", true)
  | 1 => ("Queuefloat$Payments", "to", "[I", true)
  | 2 => ("Queuefloat$Payments", "amount", "[I", true)
  | 3 => ("Queuefloat$Payments", "priorityOf", "[I", true)
  | 4 => ("Queuefloat$Payments", "waits", "[Z", true)
  | 5 => ("Queuefloat$Payments", "byPriority", "[I", true)
  | _ => ("Queuefloat$Payments", "made", "I", false)
def tyX2 : Nat → FieldType := fun k => match k with
  | 0 => .array .int
  | 1 => .array .int
  | 2 => .array .int
  | 3 => .array .int
  | 4 => .array .boolean
  | 5 => .array .int
  | _ => .int
abbrev wsX20 : List Cond := u_ws RX2 TX2 7
theorem nmX2 : ∀ a, a < 7 → ∀ b, b < 7 → a ≠ b → (TX2 a).2.1 ≠ (TX2 b).2.1 := by decide +kernel
theorem tyX2_ok : ∀ k, k < 7 → parseFieldDescriptor (TX2 k).2.2.1 = some (tyX2 k) := by decide +kernel
abbrev cX2_init : ByteArray := prog_4_method_1_code
def yX2_init : MethodName := ⟨RX2, "<init>", "()V"⟩
abbrev cX2_enter : ByteArray := prog_4_method_2_code
def yX2_enter : MethodName := ⟨RX2, "enter", "(IIII)I"⟩
abbrev cX2_apply : ByteArray := prog_4_method_3_code
def yX2_apply : MethodName := ⟨RX2, "apply", "(ILQueuefloat$Sums;)V"⟩
abbrev cX2_waitsAt : ByteArray := prog_4_method_4_code
def yX2_waitsAt : MethodName := ⟨RX2, "waitsAt", "(II)Z"⟩
abbrev cX2_inQueue : ByteArray := prog_4_method_5_code
def yX2_inQueue : MethodName := ⟨RX2, "inQueue", "(II)I"⟩
abbrev cX2_countWaiting : ByteArray := prog_4_method_6_code
def yX2_countWaiting : MethodName := ⟨RX2, "countWaiting", "()I"⟩
abbrev cX2_dropAllOf : ByteArray := prog_4_method_7_code
def yX2_dropAllOf : MethodName := ⟨RX2, "dropAllOf", "(I)V"⟩
def RX3 : String := "Queuefloat$Sums"
def TX3 : u_T := fun k => match k with
  | 0 => ("Queuefloat$Sums", "accountOf", "[I", true)
  | _ => ("Queuefloat$Sums", "netPaid", "[I", true)
def tyX3 : Nat → FieldType := fun k => match k with
  | 0 => .array .int
  | _ => .array .int
abbrev wsX30 : List Cond := u_ws RX3 TX3 2
theorem nmX3 : ∀ a, a < 2 → ∀ b, b < 2 → a ≠ b → (TX3 a).2.1 ≠ (TX3 b).2.1 := by decide +kernel
theorem tyX3_ok : ∀ k, k < 2 → parseFieldDescriptor (TX3 k).2.2.1 = some (tyX3 k) := by decide +kernel
abbrev cX3_init : ByteArray := prog_5_method_1_code
def yX3_init : MethodName := ⟨RX3, "<init>", "()V"⟩
abbrev cX3_move : ByteArray := prog_5_method_2_code
def yX3_move : MethodName := ⟨RX3, "move", "(III)V"⟩
abbrev cX3_notePaid : ByteArray := prog_5_method_3_code
def yX3_notePaid : MethodName := ⟨RX3, "notePaid", "(III)V"⟩
abbrev cX3_forgetPaid : ByteArray := prog_5_method_4_code
def yX3_forgetPaid : MethodName := ⟨RX3, "forgetPaid", "()V"⟩
abbrev cX3_copy : ByteArray := prog_5_method_5_code
def yX3_copy : MethodName := ⟨RX3, "copy", "(LQueuefloat$Sums;)V"⟩
def RX4 : String := "Queuefloat"
def TX4 : u_T := fun k => match k with
  | 0 => ("Queuefloat", "sums", "LQueuefloat$Sums;", true)
  | 1 => ("Queuefloat", "trial", "LQueuefloat$Sums;", true)
  | 2 => ("Queuefloat", "limits", "LQueuefloat$Limits;", true)
  | 3 => ("Queuefloat", "payments", "LQueuefloat$Payments;", true)
  | 4 => ("Queuefloat", "market", "LQueuefloat$Loans;", true)
  | 5 => ("Queuefloat", "closed", "[Z", true)
  | 6 => ("Queuefloat", "papersOf", "[I", true)
  | 7 => ("Queuefloat", "candidates", "[I", true)
  | 8 => ("Queuefloat", "small", "I", false)
  | 9 => ("Queuefloat", "paperPrice", "I", false)
  | 10 => ("Queuefloat", "paperCut", "I", false)
  | _ => ("Queuefloat", "proceeds", "I", false)
def tyX4 : Nat → FieldType := fun k => match k with
  | 0 => .object "Queuefloat$Sums"
  | 1 => .object "Queuefloat$Sums"
  | 2 => .object "Queuefloat$Limits"
  | 3 => .object "Queuefloat$Payments"
  | 4 => .object "Queuefloat$Loans"
  | 5 => .array .boolean
  | 6 => .array .int
  | 7 => .array .int
  | 8 => .int
  | 9 => .int
  | 10 => .int
  | _ => .int
abbrev wsX40 : List Cond := u_ws RX4 TX4 12
theorem nmX4 : ∀ a, a < 12 → ∀ b, b < 12 → a ≠ b → (TX4 a).2.1 ≠ (TX4 b).2.1 := by decide +kernel
theorem tyX4_ok : ∀ k, k < 12 → parseFieldDescriptor (TX4 k).2.2.1 = some (tyX4 k) := by decide +kernel
abbrev cX4_init : ByteArray := prog_1_method_1_code
def yX4_init : MethodName := ⟨RX4, "<init>", "()V"⟩
abbrev cX4_fund : ByteArray := prog_1_method_2_code
def yX4_fund : MethodName := ⟨RX4, "fund", "(II)I"⟩
abbrev cX4_setFloor : ByteArray := prog_1_method_3_code
def yX4_setFloor : MethodName := ⟨RX4, "setFloor", "(II)I"⟩
abbrev cX4_setBound : ByteArray := prog_1_method_4_code
def yX4_setBound : MethodName := ⟨RX4, "setBound", "(III)I"⟩
abbrev cX4_givePapers : ByteArray := prog_1_method_5_code
def yX4_givePapers : MethodName := ⟨RX4, "givePapers", "(II)I"⟩
abbrev cX4_account : ByteArray := prog_1_method_6_code
def yX4_account : MethodName := ⟨RX4, "account", "(I)I"⟩
abbrev cX4_papers : ByteArray := prog_1_method_7_code
def yX4_papers : MethodName := ⟨RX4, "papers", "(I)I"⟩
abbrev cX4_isOpen : ByteArray := prog_1_method_8_code
def yX4_isOpen : MethodName := ⟨RX4, "isOpen", "(I)Z"⟩
abbrev cX4_paid : ByteArray := prog_1_method_9_code
def yX4_paid : MethodName := ⟨RX4, "paid", "(II)I"⟩
abbrev cX4_pay : ByteArray := prog_1_method_10_code
def yX4_pay : MethodName := ⟨RX4, "pay", "(IIII)I"⟩
abbrev cX4_drop : ByteArray := prog_1_method_11_code
def yX4_drop : MethodName := ⟨RX4, "drop", "(I)I"⟩
abbrev cX4_setSmall : ByteArray := prog_1_method_12_code
def yX4_setSmall : MethodName := ⟨RX4, "setSmall", "(I)I"⟩
abbrev cX4_run : ByteArray := prog_1_method_13_code
def yX4_run : MethodName := ⟨RX4, "run", "()I"⟩
abbrev cX4_queued : ByteArray := prog_1_method_14_code
def yX4_queued : MethodName := ⟨RX4, "queued", "(II)I"⟩
abbrev cX4_why : ByteArray := prog_1_method_15_code
def yX4_why : MethodName := ⟨RX4, "why", "(I)I"⟩
abbrev cX4_canAny : ByteArray := prog_1_method_16_code
def yX4_canAny : MethodName := ⟨RX4, "canAny", "()Z"⟩
abbrev cX4_setPrice : ByteArray := prog_1_method_17_code
def yX4_setPrice : MethodName := ⟨RX4, "setPrice", "(II)V"⟩
abbrev cX4_lend : ByteArray := prog_1_method_18_code
def yX4_lend : MethodName := ⟨RX4, "lend", "(IIIII)I"⟩
abbrev cX4_loans : ByteArray := prog_1_method_19_code
def yX4_loans : MethodName := ⟨RX4, "loans", "()I"⟩
abbrev cX4_morning : ByteArray := prog_1_method_20_code
def yX4_morning : MethodName := ⟨RX4, "morning", "()I"⟩
abbrev cX4_sold : ByteArray := prog_1_method_21_code
def yX4_sold : MethodName := ⟨RX4, "sold", "()I"⟩
abbrev cX4_requireBank : ByteArray := prog_1_method_22_code
def yX4_requireBank : MethodName := ⟨RX4, "requireBank", "(I)V"⟩
abbrev cX4_requireTwo : ByteArray := prog_1_method_23_code
def yX4_requireTwo : MethodName := ⟨RX4, "requireTwo", "(II)V"⟩
abbrev cX4_requireRange : ByteArray := prog_1_method_24_code
def yX4_requireRange : MethodName := ⟨RX4, "requireRange", "(III)V"⟩
abbrev cX4_requireOpen : ByteArray := prog_1_method_25_code
def yX4_requireOpen : MethodName := ⟨RX4, "requireOpen", "(I)V"⟩
abbrev cX4_requirePayment : ByteArray := prog_1_method_26_code
def yX4_requirePayment : MethodName := ⟨RX4, "requirePayment", "(I)V"⟩
abbrev cX4_requireLoanable : ByteArray := prog_1_method_27_code
def yX4_requireLoanable : MethodName := ⟨RX4, "requireLoanable", "(IIII)V"⟩
abbrev cX4_pairOf : ByteArray := prog_1_method_28_code
def yX4_pairOf : MethodName := ⟨RX4, "pairOf", "(II)I"⟩
abbrev cX4_obstacle : ByteArray := prog_1_method_29_code
def yX4_obstacle : MethodName := ⟨RX4, "obstacle", "(I)I"⟩
abbrev cX4_send : ByteArray := prog_1_method_30_code
def yX4_send : MethodName := ⟨RX4, "send", "(I)V"⟩
abbrev cX4_goThroughBanks : ByteArray := prog_1_method_31_code
def yX4_goThroughBanks : MethodName := ⟨RX4, "goThroughBanks", "()I"⟩
abbrev cX4_nextToGo : ByteArray := prog_1_method_32_code
def yX4_nextToGo : MethodName := ⟨RX4, "nextToGo", "(I)I"⟩
abbrev cX4_firstSmallFree : ByteArray := prog_1_method_33_code
def yX4_firstSmallFree : MethodName := ⟨RX4, "firstSmallFree", "(I)I"⟩
abbrev cX4_sendLargestSet : ByteArray := prog_1_method_34_code
def yX4_sendLargestSet : MethodName := ⟨RX4, "sendLargestSet", "()I"⟩
abbrev cX4_listWaiting : ByteArray := prog_1_method_35_code
def yX4_listWaiting : MethodName := ⟨RX4, "listWaiting", "()I"⟩
abbrev cX4_canGoTogether : ByteArray := prog_1_method_36_code
def yX4_canGoTogether : MethodName := ⟨RX4, "canGoTogether", "(II)Z"⟩
abbrev cX4_isIn : ByteArray := prog_1_method_37_code
def yX4_isIn : MethodName := ⟨RX4, "isIn", "(II)Z"⟩
abbrev cX4_pledgeWorth : ByteArray := prog_1_method_38_code
def yX4_pledgeWorth : MethodName := ⟨RX4, "pledgeWorth", "(I)I"⟩
abbrev cX4_canRepay : ByteArray := prog_1_method_39_code
def yX4_canRepay : MethodName := ⟨RX4, "canRepay", "(I)Z"⟩
abbrev cX4_repay : ByteArray := prog_1_method_40_code
def yX4_repay : MethodName := ⟨RX4, "repay", "(I)V"⟩
abbrev cX4_close : ByteArray := prog_1_method_41_code
def yX4_close : MethodName := ⟨RX4, "close", "(I)I"⟩
abbrev cX4_sellPledge : ByteArray := prog_1_method_42_code
def yX4_sellPledge : MethodName := ⟨RX4, "sellPledge", "(I)V"⟩
def RX5 : String := "QueuefloatModel"
def TX5 : u_T := fun k => match k with
  | 0 => ("QueuefloatModel", "account", "[I", true)
  | 1 => ("QueuefloatModel", "floor", "[I", true)
  | 2 => ("QueuefloatModel", "papers", "[I", true)
  | 3 => ("QueuefloatModel", "isClosed", "[Z", true)
  | 4 => ("QueuefloatModel", "paid", "[I", true)
  | 5 => ("QueuefloatModel", "bound", "[I", true)
  | 6 => ("QueuefloatModel", "payments", "I", false)
  | 7 => ("QueuefloatModel", "from", "[I", true)
  | 8 => ("QueuefloatModel", "to", "[I", true)
  | 9 => ("QueuefloatModel", "amount", "[I", true)
  | 10 => ("QueuefloatModel", "priority", "[I", true)
  | 11 => ("QueuefloatModel", "isWaiting", "[Z", true)
  | 12 => ("QueuefloatModel", "small", "I", false)
  | 13 => ("QueuefloatModel", "first", "[I", true)
  | 14 => ("QueuefloatModel", "loans", "I", false)
  | 15 => ("QueuefloatModel", "lender", "[I", true)
  | 16 => ("QueuefloatModel", "borrower", "[I", true)
  | 17 => ("QueuefloatModel", "lent", "[I", true)
  | 18 => ("QueuefloatModel", "rate", "[I", true)
  | 19 => ("QueuefloatModel", "pledged", "[I", true)
  | 20 => ("QueuefloatModel", "isOpen", "[Z", true)
  | 21 => ("QueuefloatModel", "price", "I", false)
  | 22 => ("QueuefloatModel", "cut", "I", false)
  | 23 => ("QueuefloatModel", "sold", "I", false)
  | _ => ("QueuefloatModel", "thrown", "I", false)
def tyX5 : Nat → FieldType := fun k => match k with
  | 0 => .array .int
  | 1 => .array .int
  | 2 => .array .int
  | 3 => .array .boolean
  | 4 => .array .int
  | 5 => .array .int
  | 6 => .int
  | 7 => .array .int
  | 8 => .array .int
  | 9 => .array .int
  | 10 => .array .int
  | 11 => .array .boolean
  | 12 => .int
  | 13 => .array .int
  | 14 => .int
  | 15 => .array .int
  | 16 => .array .int
  | 17 => .array .int
  | 18 => .array .int
  | 19 => .array .int
  | 20 => .array .boolean
  | 21 => .int
  | 22 => .int
  | 23 => .int
  | _ => .int
abbrev wsX50 : List Cond := u_ws RX5 TX5 25
theorem nmX5 : ∀ a, a < 25 → ∀ b, b < 25 → a ≠ b → (TX5 a).2.1 ≠ (TX5 b).2.1 := by decide +kernel
theorem tyX5_ok : ∀ k, k < 25 → parseFieldDescriptor (TX5 k).2.2.1 = some (tyX5 k) := by decide +kernel
abbrev cX5_init : ByteArray := prog_7_method_1_code
def yX5_init : MethodName := ⟨RX5, "<init>", "()V"⟩
abbrev cX5_thrown : ByteArray := prog_7_method_2_code
def yX5_thrown : MethodName := ⟨RX5, "thrown", "()I"⟩
abbrev cX5_fails : ByteArray := prog_7_method_3_code
def yX5_fails : MethodName := ⟨RX5, "fails", "(I)I"⟩
abbrev cX5_asks : ByteArray := prog_7_method_4_code
def yX5_asks : MethodName := ⟨RX5, "asks", "(Z)Z"⟩
abbrev cX5_in : ByteArray := prog_7_method_5_code
def yX5_in : MethodName := ⟨RX5, "in", "(III)Z"⟩
abbrev cX5_isBank : ByteArray := prog_7_method_6_code
def yX5_isBank : MethodName := ⟨RX5, "isBank", "(I)Z"⟩
abbrev cX5_isPayment : ByteArray := prog_7_method_7_code
def yX5_isPayment : MethodName := ⟨RX5, "isPayment", "(I)Z"⟩
abbrev cX5_fund : ByteArray := prog_7_method_8_code
def yX5_fund : MethodName := ⟨RX5, "fund", "(II)I"⟩
abbrev cX5_setFloor : ByteArray := prog_7_method_9_code
def yX5_setFloor : MethodName := ⟨RX5, "setFloor", "(II)I"⟩
abbrev cX5_setBound : ByteArray := prog_7_method_10_code
def yX5_setBound : MethodName := ⟨RX5, "setBound", "(III)I"⟩
abbrev cX5_givePapers : ByteArray := prog_7_method_11_code
def yX5_givePapers : MethodName := ⟨RX5, "givePapers", "(II)I"⟩
abbrev cX5_account : ByteArray := prog_7_method_12_code
def yX5_account : MethodName := ⟨RX5, "account", "(I)I"⟩
abbrev cX5_papers : ByteArray := prog_7_method_13_code
def yX5_papers : MethodName := ⟨RX5, "papers", "(I)I"⟩
abbrev cX5_isOpen : ByteArray := prog_7_method_14_code
def yX5_isOpen : MethodName := ⟨RX5, "isOpen", "(I)Z"⟩
abbrev cX5_paid : ByteArray := prog_7_method_15_code
def yX5_paid : MethodName := ⟨RX5, "paid", "(II)I"⟩
abbrev cX5_pay : ByteArray := prog_7_method_16_code
def yX5_pay : MethodName := ⟨RX5, "pay", "(IIII)I"⟩
abbrev cX5_waiting : ByteArray := prog_7_method_17_code
def yX5_waiting : MethodName := ⟨RX5, "waiting", "()I"⟩
abbrev cX5_drop : ByteArray := prog_7_method_18_code
def yX5_drop : MethodName := ⟨RX5, "drop", "(I)I"⟩
abbrev cX5_setSmall : ByteArray := prog_7_method_19_code
def yX5_setSmall : MethodName := ⟨RX5, "setSmall", "(I)I"⟩
abbrev cX5_at : ByteArray := prog_7_method_20_code
def yX5_at : MethodName := ⟨RX5, "at", "(II)I"⟩
abbrev cX5_reason : ByteArray := prog_7_method_21_code
def yX5_reason : MethodName := ⟨RX5, "reason", "(I)I"⟩
abbrev cX5_moves : ByteArray := prog_7_method_22_code
def yX5_moves : MethodName := ⟨RX5, "moves", "(II)V"⟩
abbrev cX5_goes : ByteArray := prog_7_method_23_code
def yX5_goes : MethodName := ⟨RX5, "goes", "(I)V"⟩
abbrev cX5_isSound : ByteArray := prog_7_method_24_code
def yX5_isSound : MethodName := ⟨RX5, "isSound", "()Z"⟩
abbrev cX5_next : ByteArray := prog_7_method_25_code
def yX5_next : MethodName := ⟨RX5, "next", "(I)I"⟩
abbrev cX5_goTogether : ByteArray := prog_7_method_26_code
def yX5_goTogether : MethodName := ⟨RX5, "goTogether", "()I"⟩
abbrev cX5_firsts : ByteArray := prog_7_method_27_code
def yX5_firsts : MethodName := ⟨RX5, "firsts", "(I)V"⟩
abbrev cX5_isSet : ByteArray := prog_7_method_28_code
def yX5_isSet : MethodName := ⟨RX5, "isSet", "(I)Z"⟩
abbrev cX5_run : ByteArray := prog_7_method_29_code
def yX5_run : MethodName := ⟨RX5, "run", "()I"⟩
abbrev cX5_queued : ByteArray := prog_7_method_30_code
def yX5_queued : MethodName := ⟨RX5, "queued", "(II)I"⟩
abbrev cX5_why : ByteArray := prog_7_method_31_code
def yX5_why : MethodName := ⟨RX5, "why", "(I)I"⟩
abbrev cX5_canAny : ByteArray := prog_7_method_32_code
def yX5_canAny : MethodName := ⟨RX5, "canAny", "()Z"⟩
abbrev cX5_moveSet : ByteArray := prog_7_method_33_code
def yX5_moveSet : MethodName := ⟨RX5, "moveSet", "(II)V"⟩
abbrev cX5_setPrice : ByteArray := prog_7_method_34_code
def yX5_setPrice : MethodName := ⟨RX5, "setPrice", "(II)V"⟩
abbrev cX5_lend : ByteArray := prog_7_method_35_code
def yX5_lend : MethodName := ⟨RX5, "lend", "(IIIII)I"⟩
abbrev cX5_loans : ByteArray := prog_7_method_36_code
def yX5_loans : MethodName := ⟨RX5, "loans", "()I"⟩
abbrev cX5_closes : ByteArray := prog_7_method_37_code
def yX5_closes : MethodName := ⟨RX5, "closes", "(I)V"⟩
abbrev cX5_ends : ByteArray := prog_7_method_38_code
def yX5_ends : MethodName := ⟨RX5, "ends", "(I)Z"⟩
abbrev cX5_morning : ByteArray := prog_7_method_39_code
def yX5_morning : MethodName := ⟨RX5, "morning", "()I"⟩
abbrev cX5_sold : ByteArray := prog_7_method_40_code
def yX5_sold : MethodName := ⟨RX5, "sold", "()I"⟩
def RJ6 : String := "java/lang/Integer"
def TJ6 : u_T := fun k => match k with
  | _ => ("", "", "", false)
def tyJ6 : Nat → FieldType := fun k => match k with
  | _ => .int
abbrev wsJ60 : List Cond := u_ws RJ6 TJ6 0
theorem nmJ6 : ∀ a, a < 0 → ∀ b, b < 0 → a ≠ b → (TJ6 a).2.1 ≠ (TJ6 b).2.1 := by decide +kernel
theorem tyJ6_ok : ∀ k, k < 0 → parseFieldDescriptor (TJ6 k).2.2.1 = some (tyJ6 k) := by decide +kernel
abbrev cJ6_bitCount_0f7a4 : ByteArray := prog_12_method_49_code
def yJ6_bitCount_0f7a4 : MethodName := ⟨RJ6, "bitCount", "(I)I"⟩
def RJ9 : String := "java/lang/Math"
def TJ9 : u_T := fun k => match k with
  | _ => ("", "", "", false)
def tyJ9 : Nat → FieldType := fun k => match k with
  | _ => .int
abbrev wsJ90 : List Cond := u_ws RJ9 TJ9 0
theorem nmJ9 : ∀ a, a < 0 → ∀ b, b < 0 → a ≠ b → (TJ9 a).2.1 ≠ (TJ9 b).2.1 := by decide +kernel
theorem tyJ9_ok : ∀ k, k < 0 → parseFieldDescriptor (TJ9 k).2.2.1 = some (tyJ9 k) := by decide +kernel
abbrev cJ9_max_7cf53 : ByteArray := prog_13_method_65_code
def yJ9_max_7cf53 : MethodName := ⟨RJ9, "max", "(II)I"⟩
abbrev cJ9_min_7cf53 : ByteArray := prog_13_method_69_code
def yJ9_min_7cf53 : MethodName := ⟨RJ9, "min", "(II)I"⟩
def RJ0 : String := "java/lang/String"
def TJ0 : u_T := fun k => match k with
  | _ => ("", "", "", false)
def tyJ0 : Nat → FieldType := fun k => match k with
  | _ => .int
abbrev wsJ00 : List Cond := u_ws RJ0 TJ0 0
theorem nmJ0 : ∀ a, a < 0 → ∀ b, b < 0 → a ≠ b → (TJ0 a).2.1 ≠ (TJ0 b).2.1 := by decide +kernel
theorem tyJ0_ok : ∀ k, k < 0 → parseFieldDescriptor (TJ0 k).2.2.1 = some (tyJ0 k) := by decide +kernel
def RJ10 : String := "java/lang/System"
def TJ10 : u_T := fun k => match k with
  | _ => ("", "", "", false)
def tyJ10 : Nat → FieldType := fun k => match k with
  | _ => .int
abbrev wsJ100 : List Cond := u_ws RJ10 TJ10 0
theorem nmJ10 : ∀ a, a < 0 → ∀ b, b < 0 → a ≠ b → (TJ10 a).2.1 ≠ (TJ10 b).2.1 := by decide +kernel
theorem tyJ10_ok : ∀ k, k < 0 → parseFieldDescriptor (TJ10 k).2.2.1 = some (tyJ10 k) := by decide +kernel
def RL : String := "QueuefloatLaw"
abbrev cL_fund : ByteArray := method_3_code
def yL_fund : MethodName := ⟨RL, "fund", "(LQueuefloat;II[J)I"⟩
abbrev cL_setFloor : ByteArray := method_4_code
def yL_setFloor : MethodName := ⟨RL, "setFloor", "(LQueuefloat;II[J)I"⟩
abbrev cL_setBound : ByteArray := method_5_code
def yL_setBound : MethodName := ⟨RL, "setBound", "(LQueuefloat;III[J)I"⟩
abbrev cL_givePapers : ByteArray := method_6_code
def yL_givePapers : MethodName := ⟨RL, "givePapers", "(LQueuefloat;II[J)I"⟩
abbrev cL_account : ByteArray := method_7_code
def yL_account : MethodName := ⟨RL, "account", "(LQueuefloat;I[J)I"⟩
abbrev cL_papers : ByteArray := method_8_code
def yL_papers : MethodName := ⟨RL, "papers", "(LQueuefloat;I[J)I"⟩
abbrev cL_isOpen : ByteArray := method_9_code
def yL_isOpen : MethodName := ⟨RL, "isOpen", "(LQueuefloat;I[J)I"⟩
abbrev cL_paid : ByteArray := method_10_code
def yL_paid : MethodName := ⟨RL, "paid", "(LQueuefloat;II[J)I"⟩
abbrev cL_pay : ByteArray := method_11_code
def yL_pay : MethodName := ⟨RL, "pay", "(LQueuefloat;IIII[J)I"⟩
abbrev cL_drop : ByteArray := method_12_code
def yL_drop : MethodName := ⟨RL, "drop", "(LQueuefloat;I[J)I"⟩
abbrev cL_setSmall : ByteArray := method_13_code
def yL_setSmall : MethodName := ⟨RL, "setSmall", "(LQueuefloat;I[J)I"⟩
abbrev cL_queued : ByteArray := method_14_code
def yL_queued : MethodName := ⟨RL, "queued", "(LQueuefloat;II[J)I"⟩
abbrev cL_why : ByteArray := method_15_code
def yL_why : MethodName := ⟨RL, "why", "(LQueuefloat;I[J)I"⟩
abbrev cL_canAny : ByteArray := method_16_code
def yL_canAny : MethodName := ⟨RL, "canAny", "(LQueuefloat;[J)I"⟩
abbrev cL_setPrice : ByteArray := method_17_code
def yL_setPrice : MethodName := ⟨RL, "setPrice", "(LQueuefloat;II)I"⟩
abbrev cL_lend : ByteArray := method_18_code
def yL_lend : MethodName := ⟨RL, "lend", "(LQueuefloat;IIIII[J)I"⟩
abbrev cL_law : ByteArray := code
def yL_law : MethodName := ⟨RL, "law", "([I)Z"⟩
def wsX0_init : List Cond := .code yX0_init cX0_init 2 none :: ([.methodLink RX0 3 objectInit, .instanceMethod objectInit, .code objectInit ⟨#[0xb1]⟩ 1 none, .arrayClass .int, .fieldLink RX0 9 "Queuefloat$Limits" "floorOf" "[I", .fieldLink RX0 15 "Queuefloat$Limits" "boundOf" "[I", .constant RX0 18 (1000000)] ++ wsX00)
def wsX0_allow : List Cond := .code yX0_allow cX0_allow 3 (some .boolean) :: ([.fieldLink RX0 19 "Queuefloat$Sums" "accountOf" "[I", .fieldLink RX0 9 "Queuefloat$Limits" "floorOf" "[I", .fieldLink RX0 24 "Queuefloat$Sums" "netPaid" "[I", .fieldLink RX0 15 "Queuefloat$Limits" "boundOf" "[I"] ++ wsX30 ++ wsX00)
def wsX1_init : List Cond := .code yX1_init cX1_init 1 none :: ([.methodLink RX1 3 objectInit, .instanceMethod objectInit, .code objectInit ⟨#[0xb1]⟩ 1 none, .arrayClass .int, .fieldLink RX1 9 "Queuefloat$Loans" "lender" "[I", .fieldLink RX1 15 "Queuefloat$Loans" "borrower" "[I", .fieldLink RX1 18 "Queuefloat$Loans" "due" "[I", .fieldLink RX1 21 "Queuefloat$Loans" "pledge" "[I"] ++ wsX10)
def wsX1_enter : List Cond := .code yX1_enter cX1_enter 6 (some .int) :: ([.fieldLink RX1 24 "Queuefloat$Loans" "made" "I", .fieldLink RX1 9 "Queuefloat$Loans" "lender" "[I", .fieldLink RX1 15 "Queuefloat$Loans" "borrower" "[I", .fieldLink RX1 18 "Queuefloat$Loans" "due" "[I", .fieldLink RX1 21 "Queuefloat$Loans" "pledge" "[I"] ++ wsX10)
def wsX2_init : List Cond := .code yX2_init cX2_init 1 none :: ([.methodLink RX2 3 objectInit, .instanceMethod objectInit, .code objectInit ⟨#[0xb1]⟩ 1 none, .arrayClass .int, .fieldLink RX2 9 "Queuefloat$Payments" "from" "[I", .fieldLink RX2 15 "Queuefloat$Payments" "to" "[I", .fieldLink RX2 18 "Queuefloat$Payments" "amount" "[I", .fieldLink RX2 21 "Queuefloat$Payments" "priorityOf" "[I", .arrayClass .boolean, .fieldLink RX2 24 "Queuefloat$Payments" "waits" "[Z", .fieldLink RX2 28 "Queuefloat$Payments" "byPriority" "[I"] ++ wsX20)
def wsX2_enter : List Cond := .code yX2_enter cX2_enter 7 (some .int) :: ([.fieldLink RX2 31 "Queuefloat$Payments" "made" "I", .fieldLink RX2 9 "Queuefloat$Payments" "from" "[I", .fieldLink RX2 15 "Queuefloat$Payments" "to" "[I", .fieldLink RX2 18 "Queuefloat$Payments" "amount" "[I", .fieldLink RX2 21 "Queuefloat$Payments" "priorityOf" "[I", .fieldLink RX2 24 "Queuefloat$Payments" "waits" "[Z", .fieldLink RX2 28 "Queuefloat$Payments" "byPriority" "[I"] ++ wsX20)
def wsX3_move : List Cond := .code yX3_move cX3_move 4 none :: ([.fieldLink RX3 9 "Queuefloat$Sums" "accountOf" "[I"] ++ wsX30)
def wsX4_pairOf : List Cond := .code yX4_pairOf cX4_pairOf 2 (some .int) :: ([])
def wsX3_notePaid : List Cond := .code yX3_notePaid cX3_notePaid 4 none :: ([.fieldLink RX3 15 "Queuefloat$Sums" "netPaid" "[I", .static yX4_pairOf, .initialized RX4, .code yX4_pairOf cX4_pairOf 2 (some .int)] ++ wsX30)
def wsX2_apply : List Cond := .code yX2_apply cX2_apply 3 none :: ([.fieldLink RX2 9 "Queuefloat$Payments" "from" "[I", .fieldLink RX2 15 "Queuefloat$Payments" "to" "[I", .fieldLink RX2 18 "Queuefloat$Payments" "amount" "[I", .methodLink RX2 35 yX3_move, .instanceMethod yX3_move, .selects RX3 yX3_move yX3_move, .initialized RX3, .code yX3_move cX3_move 4 none, .fieldLink RX3 9 "Queuefloat$Sums" "accountOf" "[I", .methodLink RX2 41 yX3_notePaid, .instanceMethod yX3_notePaid, .selects RX3 yX3_notePaid yX3_notePaid, .code yX3_notePaid cX3_notePaid 4 none, .fieldLink RX3 15 "Queuefloat$Sums" "netPaid" "[I", .static yX4_pairOf, .initialized RX4, .code yX4_pairOf cX4_pairOf 2 (some .int)] ++ wsX20 ++ wsX30)
def wsX2_waitsAt : List Cond := .code yX2_waitsAt cX2_waitsAt 3 (some .boolean) :: ([.fieldLink RX2 24 "Queuefloat$Payments" "waits" "[Z", .fieldLink RX2 9 "Queuefloat$Payments" "from" "[I"] ++ wsX20)
def wsX2_inQueue : List Cond := .code yX2_inQueue cX2_inQueue 5 (some .int) :: ([.fieldLink RX2 31 "Queuefloat$Payments" "made" "I", .fieldLink RX2 28 "Queuefloat$Payments" "byPriority" "[I", .methodLink RX2 44 yX2_waitsAt, .instanceMethod yX2_waitsAt, .selects RX2 yX2_waitsAt yX2_waitsAt, .initialized RX2, .code yX2_waitsAt cX2_waitsAt 3 (some .boolean), .fieldLink RX2 24 "Queuefloat$Payments" "waits" "[Z", .fieldLink RX2 9 "Queuefloat$Payments" "from" "[I"] ++ wsX20)
def wsX2_countWaiting : List Cond := .code yX2_countWaiting cX2_countWaiting 3 (some .int) :: ([.fieldLink RX2 31 "Queuefloat$Payments" "made" "I", .fieldLink RX2 24 "Queuefloat$Payments" "waits" "[Z"] ++ wsX20)
def wsX2_dropAllOf : List Cond := .code yX2_dropAllOf cX2_dropAllOf 3 none :: ([.fieldLink RX2 31 "Queuefloat$Payments" "made" "I", .fieldLink RX2 9 "Queuefloat$Payments" "from" "[I", .fieldLink RX2 15 "Queuefloat$Payments" "to" "[I", .fieldLink RX2 24 "Queuefloat$Payments" "waits" "[Z"] ++ wsX20)
def wsX3_init : List Cond := .code yX3_init cX3_init 1 none :: ([.methodLink RX3 3 objectInit, .instanceMethod objectInit, .code objectInit ⟨#[0xb1]⟩ 1 none, .arrayClass .int, .fieldLink RX3 9 "Queuefloat$Sums" "accountOf" "[I", .fieldLink RX3 15 "Queuefloat$Sums" "netPaid" "[I"] ++ wsX30)
def wsX3_forgetPaid : List Cond := .code yX3_forgetPaid cX3_forgetPaid 2 none :: ([.fieldLink RX3 15 "Queuefloat$Sums" "netPaid" "[I"] ++ wsX30)
def wsX3_copy : List Cond := .code yX3_copy cX3_copy 2 none :: ([.fieldLink RX3 9 "Queuefloat$Sums" "accountOf" "[I", .methodLink RX3 22 arraycopyName, .native arraycopyName, .static arraycopyName, .initialized "java/lang/System", .fieldLink RX3 15 "Queuefloat$Sums" "netPaid" "[I"] ++ wsX30)
def wsX4_init_r1 : List Cond := [Cond.methodLink RX4 1 objectInit, Cond.instanceMethod objectInit, Cond.code objectInit ⟨#[0xb1]⟩ 1 none, Cond.classLink RX4 7 RX3, Cond.instantiable RX3 2, Cond.initialized RX3, Cond.fieldLink RX4 10 "Queuefloat" "sums" "LQueuefloat$Sums;", Cond.fieldLink RX4 16 "Queuefloat" "trial" "LQueuefloat$Sums;", Cond.classLink RX4 19 RX0, Cond.instantiable RX0 2, Cond.initialized RX0, Cond.fieldLink RX4 22 "Queuefloat" "limits" "LQueuefloat$Limits;", Cond.classLink RX4 26 RX2, Cond.instantiable RX2 7, Cond.initialized RX2, Cond.fieldLink RX4 29 "Queuefloat" "payments" "LQueuefloat$Payments;", Cond.classLink RX4 33 RX1, Cond.instantiable RX1 6, Cond.initialized RX1, Cond.fieldLink RX4 36 "Queuefloat" "market" "LQueuefloat$Loans;", Cond.arrayClass .boolean, Cond.fieldLink RX4 40 "Queuefloat" "closed" "[Z", Cond.arrayClass .int, Cond.fieldLink RX4 44 "Queuefloat" "papersOf" "[I"]
def wsX4_init_r2 : List Cond := [Cond.fieldLink RX4 48 "Queuefloat" "candidates" "[I", Cond.fieldLink RX4 51 "Queuefloat" "small" "I", Cond.fieldLink RX4 55 "Queuefloat" "paperPrice" "I", Cond.fieldLink RX4 58 "Queuefloat" "paperCut" "I", Cond.methodLink RX4 9 yX3_init, Cond.instanceMethod yX3_init, Cond.code yX3_init cX3_init 1 none, Cond.methodLink RX3 3 objectInit, Cond.fieldLink RX3 9 "Queuefloat$Sums" "accountOf" "[I", Cond.fieldLink RX3 15 "Queuefloat$Sums" "netPaid" "[I", Cond.methodLink RX4 21 yX0_init, Cond.instanceMethod yX0_init, Cond.code yX0_init cX0_init 2 none, Cond.methodLink RX0 3 objectInit, Cond.fieldLink RX0 9 "Queuefloat$Limits" "floorOf" "[I", Cond.fieldLink RX0 15 "Queuefloat$Limits" "boundOf" "[I", Cond.constant RX0 18 (1000000), Cond.methodLink RX4 28 yX2_init, Cond.instanceMethod yX2_init, Cond.code yX2_init cX2_init 1 none, Cond.methodLink RX2 3 objectInit, Cond.fieldLink RX2 9 "Queuefloat$Payments" "from" "[I", Cond.fieldLink RX2 15 "Queuefloat$Payments" "to" "[I", Cond.fieldLink RX2 18 "Queuefloat$Payments" "amount" "[I"]
def wsX4_init_r3 : List Cond := [Cond.fieldLink RX2 21 "Queuefloat$Payments" "priorityOf" "[I", Cond.fieldLink RX2 24 "Queuefloat$Payments" "waits" "[Z", Cond.fieldLink RX2 28 "Queuefloat$Payments" "byPriority" "[I", Cond.methodLink RX4 35 yX1_init, Cond.instanceMethod yX1_init, Cond.code yX1_init cX1_init 1 none, Cond.methodLink RX1 3 objectInit, Cond.fieldLink RX1 9 "Queuefloat$Loans" "lender" "[I", Cond.fieldLink RX1 15 "Queuefloat$Loans" "borrower" "[I", Cond.fieldLink RX1 18 "Queuefloat$Loans" "due" "[I", Cond.fieldLink RX1 21 "Queuefloat$Loans" "pledge" "[I"]
def wsX4_init : List Cond := .code yX4_init cX4_init 1 none :: ((wsX4_init_r1 ++ (wsX4_init_r2 ++ wsX4_init_r3)) ++ wsX30 ++ wsX40 ++ wsX00 ++ wsX20 ++ wsX10)
def wsX4_requireBank : List Cond := .code yX4_requireBank cX4_requireBank 1 none :: ([.classLink RX4 140 "java/lang/IndexOutOfBoundsException", .initialized "java/lang/IndexOutOfBoundsException"] ++ (vx_atS RX4 144 "java/lang/IndexOutOfBoundsException" ["java/lang/RuntimeException", "java/lang/Exception"]).filter goodWord)
def wsX4_requireRange : List Cond := .code yX4_requireRange cX4_requireRange 3 none :: ([.classLink RX4 197 "java/lang/IllegalArgumentException", .initialized "java/lang/IllegalArgumentException"] ++ (vx_atS RX4 201 "java/lang/IllegalArgumentException" ["java/lang/RuntimeException", "java/lang/Exception"]).filter goodWord)
def wsX4_requireOpen : List Cond := .code yX4_requireOpen cX4_requireOpen 2 none :: ([.classLink RX4 77 "java/lang/IllegalStateException", .initialized "java/lang/IllegalStateException", .fieldLink RX4 40 "Queuefloat" "closed" "[Z"] ++ wsX40 ++ (vx_atS RX4 81 "java/lang/IllegalStateException" ["java/lang/RuntimeException", "java/lang/Exception"]).filter goodWord)
def wsX4_fund : List Cond := .code yX4_fund cX4_fund 3 (some .int) :: ([.classLink RX4 77 "java/lang/IllegalStateException", .initialized "java/lang/IllegalStateException", .constant RX4 65 (1000000), .fieldLink RX4 10 "Queuefloat" "sums" "LQueuefloat$Sums;", .fieldLink RX4 73 "Queuefloat$Sums" "accountOf" "[I", .constant RX4 76 (100000000), .methodLink RX4 61 yX4_requireBank, .static yX4_requireBank, .initialized RX4, .code yX4_requireBank cX4_requireBank 1 none, .classLink RX4 140 "java/lang/IndexOutOfBoundsException", .initialized "java/lang/IndexOutOfBoundsException", .methodLink RX4 66 yX4_requireRange, .static yX4_requireRange, .code yX4_requireRange cX4_requireRange 3 none, .classLink RX4 197 "java/lang/IllegalArgumentException", .initialized "java/lang/IllegalArgumentException", .methodLink RX4 70 yX4_requireOpen, .instanceMethod yX4_requireOpen, .selects RX4 yX4_requireOpen yX4_requireOpen, .code yX4_requireOpen cX4_requireOpen 2 none, .fieldLink RX4 40 "Queuefloat" "closed" "[Z"] ++ wsX40 ++ wsX30 ++ (vx_atS RX4 81 "java/lang/IllegalStateException" ["java/lang/RuntimeException", "java/lang/Exception"]).filter goodWord ++ (vx_atS RX4 144 "java/lang/IndexOutOfBoundsException" ["java/lang/RuntimeException", "java/lang/Exception"]).filter goodWord ++ (vx_atS RX4 201 "java/lang/IllegalArgumentException" ["java/lang/RuntimeException", "java/lang/Exception"]).filter goodWord)
def wsX4_setFloor : List Cond := .code yX4_setFloor cX4_setFloor 4 (some .int) :: ([.constant RX4 84 (-1000000), .fieldLink RX4 10 "Queuefloat" "sums" "LQueuefloat$Sums;", .fieldLink RX4 73 "Queuefloat$Sums" "accountOf" "[I", .methodLink RX4 85 Lib.Math.min.name, .static Lib.Math.min.name, .initialized "java/lang/Math", .code Lib.Math.min.name Lib.Math.min.code 2 (some .int), .fieldLink RX4 22 "Queuefloat" "limits" "LQueuefloat$Limits;", .fieldLink RX4 91 "Queuefloat$Limits" "floorOf" "[I", .methodLink RX4 61 yX4_requireBank, .static yX4_requireBank, .initialized RX4, .code yX4_requireBank cX4_requireBank 1 none, .classLink RX4 140 "java/lang/IndexOutOfBoundsException", .initialized "java/lang/IndexOutOfBoundsException", .methodLink RX4 66 yX4_requireRange, .static yX4_requireRange, .code yX4_requireRange cX4_requireRange 3 none, .classLink RX4 197 "java/lang/IllegalArgumentException", .initialized "java/lang/IllegalArgumentException"] ++ wsX40 ++ wsX30 ++ wsX00 ++ (vx_atS RX4 144 "java/lang/IndexOutOfBoundsException" ["java/lang/RuntimeException", "java/lang/Exception"]).filter goodWord ++ (vx_atS RX4 201 "java/lang/IllegalArgumentException" ["java/lang/RuntimeException", "java/lang/Exception"]).filter goodWord)
def wsX4_requireTwo : List Cond := .code yX4_requireTwo cX4_requireTwo 2 none :: ([.classLink RX4 197 "java/lang/IllegalArgumentException", .initialized "java/lang/IllegalArgumentException"] ++ (vx_atS RX4 201 "java/lang/IllegalArgumentException" ["java/lang/RuntimeException", "java/lang/Exception"]).filter goodWord)
def wsX4_setBound_r1 : List Cond := [Cond.fieldLink RX4 10 "Queuefloat" "sums" "LQueuefloat$Sums;", Cond.fieldLink RX4 101 "Queuefloat$Sums" "netPaid" "[I", Cond.methodLink RX4 104 Lib.Math.max.name, Cond.static Lib.Math.max.name, Cond.initialized "java/lang/Math", Cond.code Lib.Math.max.name Lib.Math.max.code 2 (some .int), Cond.constant RX4 65 (1000000), Cond.fieldLink RX4 22 "Queuefloat" "limits" "LQueuefloat$Limits;", Cond.fieldLink RX4 107 "Queuefloat$Limits" "boundOf" "[I", Cond.methodLink RX4 61 yX4_requireBank, Cond.static yX4_requireBank, Cond.initialized RX4, Cond.code yX4_requireBank cX4_requireBank 1 none, Cond.classLink RX4 140 "java/lang/IndexOutOfBoundsException", Cond.initialized "java/lang/IndexOutOfBoundsException", Cond.methodLink RX4 94 yX4_requireTwo, Cond.static yX4_requireTwo, Cond.code yX4_requireTwo cX4_requireTwo 2 none, Cond.classLink RX4 197 "java/lang/IllegalArgumentException", Cond.initialized "java/lang/IllegalArgumentException", Cond.methodLink RX4 98 yX4_pairOf, Cond.static yX4_pairOf, Cond.code yX4_pairOf cX4_pairOf 2 (some .int), Cond.methodLink RX4 66 yX4_requireRange]
def wsX4_setBound_r2 : List Cond := [Cond.static yX4_requireRange, Cond.code yX4_requireRange cX4_requireRange 3 none]
def wsX4_setBound : List Cond := .code yX4_setBound cX4_setBound 6 (some .int) :: ((wsX4_setBound_r1 ++ wsX4_setBound_r2) ++ wsX40 ++ wsX30 ++ wsX00 ++ (vx_atS RX4 144 "java/lang/IndexOutOfBoundsException" ["java/lang/RuntimeException", "java/lang/Exception"]).filter goodWord ++ (vx_atS RX4 201 "java/lang/IllegalArgumentException" ["java/lang/RuntimeException", "java/lang/Exception"]).filter goodWord)
def wsX4_givePapers : List Cond := .code yX4_givePapers cX4_givePapers 3 (some .int) :: ([.classLink RX4 77 "java/lang/IllegalStateException", .initialized "java/lang/IllegalStateException", .fieldLink RX4 44 "Queuefloat" "papersOf" "[I", .constant RX4 110 (100000), .methodLink RX4 61 yX4_requireBank, .static yX4_requireBank, .initialized RX4, .code yX4_requireBank cX4_requireBank 1 none, .classLink RX4 140 "java/lang/IndexOutOfBoundsException", .initialized "java/lang/IndexOutOfBoundsException", .methodLink RX4 66 yX4_requireRange, .static yX4_requireRange, .code yX4_requireRange cX4_requireRange 3 none, .classLink RX4 197 "java/lang/IllegalArgumentException", .initialized "java/lang/IllegalArgumentException", .methodLink RX4 70 yX4_requireOpen, .instanceMethod yX4_requireOpen, .selects RX4 yX4_requireOpen yX4_requireOpen, .code yX4_requireOpen cX4_requireOpen 2 none, .fieldLink RX4 40 "Queuefloat" "closed" "[Z"] ++ wsX40 ++ (vx_atS RX4 81 "java/lang/IllegalStateException" ["java/lang/RuntimeException", "java/lang/Exception"]).filter goodWord ++ (vx_atS RX4 144 "java/lang/IndexOutOfBoundsException" ["java/lang/RuntimeException", "java/lang/Exception"]).filter goodWord ++ (vx_atS RX4 201 "java/lang/IllegalArgumentException" ["java/lang/RuntimeException", "java/lang/Exception"]).filter goodWord)
def wsX4_account : List Cond := .code yX4_account cX4_account 2 (some .int) :: ([.fieldLink RX4 10 "Queuefloat" "sums" "LQueuefloat$Sums;", .fieldLink RX4 73 "Queuefloat$Sums" "accountOf" "[I", .methodLink RX4 61 yX4_requireBank, .static yX4_requireBank, .initialized RX4, .code yX4_requireBank cX4_requireBank 1 none, .classLink RX4 140 "java/lang/IndexOutOfBoundsException", .initialized "java/lang/IndexOutOfBoundsException"] ++ wsX40 ++ wsX30 ++ (vx_atS RX4 144 "java/lang/IndexOutOfBoundsException" ["java/lang/RuntimeException", "java/lang/Exception"]).filter goodWord)
def wsX4_papers : List Cond := .code yX4_papers cX4_papers 2 (some .int) :: ([.fieldLink RX4 44 "Queuefloat" "papersOf" "[I", .methodLink RX4 61 yX4_requireBank, .static yX4_requireBank, .initialized RX4, .code yX4_requireBank cX4_requireBank 1 none, .classLink RX4 140 "java/lang/IndexOutOfBoundsException", .initialized "java/lang/IndexOutOfBoundsException"] ++ wsX40 ++ (vx_atS RX4 144 "java/lang/IndexOutOfBoundsException" ["java/lang/RuntimeException", "java/lang/Exception"]).filter goodWord)
def wsX4_isOpen : List Cond := .code yX4_isOpen cX4_isOpen 2 (some .boolean) :: ([.fieldLink RX4 40 "Queuefloat" "closed" "[Z", .methodLink RX4 61 yX4_requireBank, .static yX4_requireBank, .initialized RX4, .code yX4_requireBank cX4_requireBank 1 none, .classLink RX4 140 "java/lang/IndexOutOfBoundsException", .initialized "java/lang/IndexOutOfBoundsException"] ++ wsX40 ++ (vx_atS RX4 144 "java/lang/IndexOutOfBoundsException" ["java/lang/RuntimeException", "java/lang/Exception"]).filter goodWord)
def wsX4_paid : List Cond := .code yX4_paid cX4_paid 3 (some .int) :: ([.fieldLink RX4 10 "Queuefloat" "sums" "LQueuefloat$Sums;", .fieldLink RX4 101 "Queuefloat$Sums" "netPaid" "[I", .methodLink RX4 61 yX4_requireBank, .static yX4_requireBank, .initialized RX4, .code yX4_requireBank cX4_requireBank 1 none, .classLink RX4 140 "java/lang/IndexOutOfBoundsException", .initialized "java/lang/IndexOutOfBoundsException", .methodLink RX4 98 yX4_pairOf, .static yX4_pairOf, .code yX4_pairOf cX4_pairOf 2 (some .int)] ++ wsX40 ++ wsX30 ++ (vx_atS RX4 144 "java/lang/IndexOutOfBoundsException" ["java/lang/RuntimeException", "java/lang/Exception"]).filter goodWord)
def wsX4_pay_r1 : List Cond := [Cond.classLink RX4 77 "java/lang/IllegalStateException", Cond.initialized "java/lang/IllegalStateException", Cond.constant RX4 110 (100000), Cond.fieldLink RX4 29 "Queuefloat" "payments" "LQueuefloat$Payments;", Cond.fieldLink RX4 113 "Queuefloat$Payments" "made" "I", Cond.methodLink RX4 61 yX4_requireBank, Cond.static yX4_requireBank, Cond.initialized RX4, Cond.code yX4_requireBank cX4_requireBank 1 none, Cond.classLink RX4 140 "java/lang/IndexOutOfBoundsException", Cond.initialized "java/lang/IndexOutOfBoundsException", Cond.methodLink RX4 94 yX4_requireTwo, Cond.static yX4_requireTwo, Cond.code yX4_requireTwo cX4_requireTwo 2 none, Cond.classLink RX4 197 "java/lang/IllegalArgumentException", Cond.initialized "java/lang/IllegalArgumentException", Cond.methodLink RX4 66 yX4_requireRange, Cond.static yX4_requireRange, Cond.code yX4_requireRange cX4_requireRange 3 none, Cond.methodLink RX4 70 yX4_requireOpen, Cond.instanceMethod yX4_requireOpen, Cond.selects RX4 yX4_requireOpen yX4_requireOpen, Cond.code yX4_requireOpen cX4_requireOpen 2 none, Cond.fieldLink RX4 40 "Queuefloat" "closed" "[Z"]
def wsX4_pay_r2 : List Cond := [Cond.methodLink RX4 118 yX2_enter, Cond.instanceMethod yX2_enter, Cond.selects RX2 yX2_enter yX2_enter, Cond.initialized RX2, Cond.code yX2_enter cX2_enter 7 (some .int), Cond.fieldLink RX2 31 "Queuefloat$Payments" "made" "I", Cond.fieldLink RX2 9 "Queuefloat$Payments" "from" "[I", Cond.fieldLink RX2 15 "Queuefloat$Payments" "to" "[I", Cond.fieldLink RX2 18 "Queuefloat$Payments" "amount" "[I", Cond.fieldLink RX2 21 "Queuefloat$Payments" "priorityOf" "[I", Cond.fieldLink RX2 24 "Queuefloat$Payments" "waits" "[Z", Cond.fieldLink RX2 28 "Queuefloat$Payments" "byPriority" "[I"]
def wsX4_pay : List Cond := .code yX4_pay cX4_pay 5 (some .int) :: ((wsX4_pay_r1 ++ wsX4_pay_r2) ++ wsX40 ++ wsX20 ++ (vx_atS RX4 81 "java/lang/IllegalStateException" ["java/lang/RuntimeException", "java/lang/Exception"]).filter goodWord ++ (vx_atS RX4 144 "java/lang/IndexOutOfBoundsException" ["java/lang/RuntimeException", "java/lang/Exception"]).filter goodWord ++ (vx_atS RX4 201 "java/lang/IllegalArgumentException" ["java/lang/RuntimeException", "java/lang/Exception"]).filter goodWord)
def wsX4_requirePayment : List Cond := .code yX4_requirePayment cX4_requirePayment 2 none :: ([.classLink RX4 140 "java/lang/IndexOutOfBoundsException", .initialized "java/lang/IndexOutOfBoundsException", .fieldLink RX4 29 "Queuefloat" "payments" "LQueuefloat$Payments;", .fieldLink RX4 113 "Queuefloat$Payments" "made" "I"] ++ wsX40 ++ wsX20 ++ (vx_atS RX4 144 "java/lang/IndexOutOfBoundsException" ["java/lang/RuntimeException", "java/lang/Exception"]).filter goodWord)
def wsX4_drop : List Cond := .code yX4_drop cX4_drop 2 (some .int) :: ([.classLink RX4 77 "java/lang/IllegalStateException", .initialized "java/lang/IllegalStateException", .fieldLink RX4 29 "Queuefloat" "payments" "LQueuefloat$Payments;", .fieldLink RX4 125 "Queuefloat$Payments" "waits" "[Z", .methodLink RX4 122 yX4_requirePayment, .instanceMethod yX4_requirePayment, .selects RX4 yX4_requirePayment yX4_requirePayment, .initialized RX4, .code yX4_requirePayment cX4_requirePayment 2 none, .classLink RX4 140 "java/lang/IndexOutOfBoundsException", .initialized "java/lang/IndexOutOfBoundsException", .fieldLink RX4 113 "Queuefloat$Payments" "made" "I", .methodLink RX4 130 yX2_countWaiting, .instanceMethod yX2_countWaiting, .selects RX2 yX2_countWaiting yX2_countWaiting, .initialized RX2, .code yX2_countWaiting cX2_countWaiting 3 (some .int), .fieldLink RX2 31 "Queuefloat$Payments" "made" "I", .fieldLink RX2 24 "Queuefloat$Payments" "waits" "[Z"] ++ wsX40 ++ wsX20 ++ (vx_atS RX4 81 "java/lang/IllegalStateException" ["java/lang/RuntimeException", "java/lang/Exception"]).filter goodWord ++ (vx_atS RX4 144 "java/lang/IndexOutOfBoundsException" ["java/lang/RuntimeException", "java/lang/Exception"]).filter goodWord)
def wsX4_setSmall : List Cond := .code yX4_setSmall cX4_setSmall 3 (some .int) :: ([.constant RX4 110 (100000), .fieldLink RX4 51 "Queuefloat" "small" "I", .methodLink RX4 66 yX4_requireRange, .static yX4_requireRange, .initialized RX4, .code yX4_requireRange cX4_requireRange 3 none, .classLink RX4 197 "java/lang/IllegalArgumentException", .initialized "java/lang/IllegalArgumentException"] ++ wsX40 ++ (vx_atS RX4 201 "java/lang/IllegalArgumentException" ["java/lang/RuntimeException", "java/lang/Exception"]).filter goodWord)
def wsX4_obstacle : List Cond := .code yX4_obstacle cX4_obstacle 5 (some .int) :: ([.fieldLink RX4 29 "Queuefloat" "payments" "LQueuefloat$Payments;", .fieldLink RX4 125 "Queuefloat$Payments" "waits" "[Z", .fieldLink RX4 217 "Queuefloat$Payments" "from" "[I", .fieldLink RX4 220 "Queuefloat$Payments" "amount" "[I", .fieldLink RX4 10 "Queuefloat" "sums" "LQueuefloat$Sums;", .fieldLink RX4 73 "Queuefloat$Sums" "accountOf" "[I", .fieldLink RX4 22 "Queuefloat" "limits" "LQueuefloat$Limits;", .fieldLink RX4 91 "Queuefloat$Limits" "floorOf" "[I", .fieldLink RX4 223 "Queuefloat$Payments" "to" "[I", .fieldLink RX4 101 "Queuefloat$Sums" "netPaid" "[I", .fieldLink RX4 107 "Queuefloat$Limits" "boundOf" "[I", .methodLink RX4 98 yX4_pairOf, .static yX4_pairOf, .initialized RX4, .code yX4_pairOf cX4_pairOf 2 (some .int)] ++ wsX40 ++ wsX20 ++ wsX30 ++ wsX00)
def wsX4_firstSmallFree_r1 : List Cond := [Cond.fieldLink RX4 29 "Queuefloat" "payments" "LQueuefloat$Payments;", Cond.fieldLink RX4 113 "Queuefloat$Payments" "made" "I", Cond.fieldLink RX4 239 "Queuefloat$Payments" "byPriority" "[I", Cond.fieldLink RX4 220 "Queuefloat$Payments" "amount" "[I", Cond.fieldLink RX4 51 "Queuefloat" "small" "I", Cond.methodLink RX4 242 yX2_waitsAt, Cond.instanceMethod yX2_waitsAt, Cond.selects RX2 yX2_waitsAt yX2_waitsAt, Cond.initialized RX2, Cond.code yX2_waitsAt cX2_waitsAt 3 (some .boolean), Cond.fieldLink RX2 24 "Queuefloat$Payments" "waits" "[Z", Cond.fieldLink RX2 9 "Queuefloat$Payments" "from" "[I", Cond.methodLink RX4 148 yX4_obstacle, Cond.instanceMethod yX4_obstacle, Cond.selects RX4 yX4_obstacle yX4_obstacle, Cond.initialized RX4, Cond.code yX4_obstacle cX4_obstacle 5 (some .int), Cond.fieldLink RX4 125 "Queuefloat$Payments" "waits" "[Z", Cond.fieldLink RX4 217 "Queuefloat$Payments" "from" "[I", Cond.fieldLink RX4 10 "Queuefloat" "sums" "LQueuefloat$Sums;", Cond.fieldLink RX4 73 "Queuefloat$Sums" "accountOf" "[I", Cond.fieldLink RX4 22 "Queuefloat" "limits" "LQueuefloat$Limits;", Cond.fieldLink RX4 91 "Queuefloat$Limits" "floorOf" "[I", Cond.fieldLink RX4 223 "Queuefloat$Payments" "to" "[I"]
def wsX4_firstSmallFree_r2 : List Cond := [Cond.fieldLink RX4 101 "Queuefloat$Sums" "netPaid" "[I", Cond.fieldLink RX4 107 "Queuefloat$Limits" "boundOf" "[I", Cond.methodLink RX4 98 yX4_pairOf, Cond.static yX4_pairOf, Cond.code yX4_pairOf cX4_pairOf 2 (some .int)]
def wsX4_firstSmallFree : List Cond := .code yX4_firstSmallFree cX4_firstSmallFree 4 (some .int) :: ((wsX4_firstSmallFree_r1 ++ wsX4_firstSmallFree_r2) ++ wsX40 ++ wsX20 ++ wsX30 ++ wsX00)
def wsX4_nextToGo_r1 : List Cond := [Cond.fieldLink RX4 29 "Queuefloat" "payments" "LQueuefloat$Payments;", Cond.methodLink RX4 145 yX2_inQueue, Cond.instanceMethod yX2_inQueue, Cond.selects RX2 yX2_inQueue yX2_inQueue, Cond.initialized RX2, Cond.code yX2_inQueue cX2_inQueue 5 (some .int), Cond.fieldLink RX2 31 "Queuefloat$Payments" "made" "I", Cond.fieldLink RX2 28 "Queuefloat$Payments" "byPriority" "[I", Cond.methodLink RX2 44 yX2_waitsAt, Cond.instanceMethod yX2_waitsAt, Cond.selects RX2 yX2_waitsAt yX2_waitsAt, Cond.code yX2_waitsAt cX2_waitsAt 3 (some .boolean), Cond.fieldLink RX2 24 "Queuefloat$Payments" "waits" "[Z", Cond.fieldLink RX2 9 "Queuefloat$Payments" "from" "[I", Cond.methodLink RX4 148 yX4_obstacle, Cond.instanceMethod yX4_obstacle, Cond.selects RX4 yX4_obstacle yX4_obstacle, Cond.initialized RX4, Cond.code yX4_obstacle cX4_obstacle 5 (some .int), Cond.fieldLink RX4 125 "Queuefloat$Payments" "waits" "[Z", Cond.fieldLink RX4 217 "Queuefloat$Payments" "from" "[I", Cond.fieldLink RX4 220 "Queuefloat$Payments" "amount" "[I", Cond.fieldLink RX4 10 "Queuefloat" "sums" "LQueuefloat$Sums;", Cond.fieldLink RX4 73 "Queuefloat$Sums" "accountOf" "[I"]
def wsX4_nextToGo_r2 : List Cond := [Cond.fieldLink RX4 22 "Queuefloat" "limits" "LQueuefloat$Limits;", Cond.fieldLink RX4 91 "Queuefloat$Limits" "floorOf" "[I", Cond.fieldLink RX4 223 "Queuefloat$Payments" "to" "[I", Cond.fieldLink RX4 101 "Queuefloat$Sums" "netPaid" "[I", Cond.fieldLink RX4 107 "Queuefloat$Limits" "boundOf" "[I", Cond.methodLink RX4 98 yX4_pairOf, Cond.static yX4_pairOf, Cond.code yX4_pairOf cX4_pairOf 2 (some .int), Cond.methodLink RX4 236 yX4_firstSmallFree, Cond.instanceMethod yX4_firstSmallFree, Cond.selects RX4 yX4_firstSmallFree yX4_firstSmallFree, Cond.code yX4_firstSmallFree cX4_firstSmallFree 4 (some .int), Cond.fieldLink RX4 113 "Queuefloat$Payments" "made" "I", Cond.fieldLink RX4 239 "Queuefloat$Payments" "byPriority" "[I", Cond.fieldLink RX4 51 "Queuefloat" "small" "I", Cond.methodLink RX4 242 yX2_waitsAt]
def wsX4_nextToGo : List Cond := .code yX4_nextToGo cX4_nextToGo 3 (some .int) :: ((wsX4_nextToGo_r1 ++ wsX4_nextToGo_r2) ++ wsX40 ++ wsX20 ++ wsX30 ++ wsX00)
def wsX4_send_r1 : List Cond := [Cond.fieldLink RX4 29 "Queuefloat" "payments" "LQueuefloat$Payments;", Cond.fieldLink RX4 10 "Queuefloat" "sums" "LQueuefloat$Sums;", Cond.fieldLink RX4 125 "Queuefloat$Payments" "waits" "[Z", Cond.methodLink RX4 226 yX2_apply, Cond.instanceMethod yX2_apply, Cond.selects RX2 yX2_apply yX2_apply, Cond.initialized RX2, Cond.code yX2_apply cX2_apply 3 none, Cond.fieldLink RX2 9 "Queuefloat$Payments" "from" "[I", Cond.fieldLink RX2 15 "Queuefloat$Payments" "to" "[I", Cond.fieldLink RX2 18 "Queuefloat$Payments" "amount" "[I", Cond.methodLink RX2 35 yX3_move, Cond.instanceMethod yX3_move, Cond.selects RX3 yX3_move yX3_move, Cond.initialized RX3, Cond.code yX3_move cX3_move 4 none, Cond.fieldLink RX3 9 "Queuefloat$Sums" "accountOf" "[I", Cond.methodLink RX2 41 yX3_notePaid, Cond.instanceMethod yX3_notePaid, Cond.selects RX3 yX3_notePaid yX3_notePaid, Cond.code yX3_notePaid cX3_notePaid 4 none, Cond.fieldLink RX3 15 "Queuefloat$Sums" "netPaid" "[I", Cond.static yX4_pairOf, Cond.initialized RX4]
def wsX4_send_r2 : List Cond := [Cond.code yX4_pairOf cX4_pairOf 2 (some .int)]
def wsX4_send : List Cond := .code yX4_send cX4_send 2 none :: ((wsX4_send_r1 ++ wsX4_send_r2) ++ wsX40 ++ wsX20 ++ wsX30)
def wsX4_goThroughBanks_r1 : List Cond := [Cond.methodLink RX4 230 yX4_nextToGo, Cond.instanceMethod yX4_nextToGo, Cond.selects RX4 yX4_nextToGo yX4_nextToGo, Cond.initialized RX4, Cond.code yX4_nextToGo cX4_nextToGo 3 (some .int), Cond.fieldLink RX4 29 "Queuefloat" "payments" "LQueuefloat$Payments;", Cond.methodLink RX4 145 yX2_inQueue, Cond.instanceMethod yX2_inQueue, Cond.selects RX2 yX2_inQueue yX2_inQueue, Cond.initialized RX2, Cond.code yX2_inQueue cX2_inQueue 5 (some .int), Cond.fieldLink RX2 31 "Queuefloat$Payments" "made" "I", Cond.fieldLink RX2 28 "Queuefloat$Payments" "byPriority" "[I", Cond.methodLink RX2 44 yX2_waitsAt, Cond.instanceMethod yX2_waitsAt, Cond.selects RX2 yX2_waitsAt yX2_waitsAt, Cond.code yX2_waitsAt cX2_waitsAt 3 (some .boolean), Cond.fieldLink RX2 24 "Queuefloat$Payments" "waits" "[Z", Cond.fieldLink RX2 9 "Queuefloat$Payments" "from" "[I", Cond.methodLink RX4 148 yX4_obstacle, Cond.instanceMethod yX4_obstacle, Cond.selects RX4 yX4_obstacle yX4_obstacle, Cond.code yX4_obstacle cX4_obstacle 5 (some .int), Cond.fieldLink RX4 125 "Queuefloat$Payments" "waits" "[Z"]
def wsX4_goThroughBanks_r2 : List Cond := [Cond.fieldLink RX4 217 "Queuefloat$Payments" "from" "[I", Cond.fieldLink RX4 220 "Queuefloat$Payments" "amount" "[I", Cond.fieldLink RX4 10 "Queuefloat" "sums" "LQueuefloat$Sums;", Cond.fieldLink RX4 73 "Queuefloat$Sums" "accountOf" "[I", Cond.fieldLink RX4 22 "Queuefloat" "limits" "LQueuefloat$Limits;", Cond.fieldLink RX4 91 "Queuefloat$Limits" "floorOf" "[I", Cond.fieldLink RX4 223 "Queuefloat$Payments" "to" "[I", Cond.fieldLink RX4 101 "Queuefloat$Sums" "netPaid" "[I", Cond.fieldLink RX4 107 "Queuefloat$Limits" "boundOf" "[I", Cond.methodLink RX4 98 yX4_pairOf, Cond.static yX4_pairOf, Cond.code yX4_pairOf cX4_pairOf 2 (some .int), Cond.methodLink RX4 236 yX4_firstSmallFree, Cond.instanceMethod yX4_firstSmallFree, Cond.selects RX4 yX4_firstSmallFree yX4_firstSmallFree, Cond.code yX4_firstSmallFree cX4_firstSmallFree 4 (some .int), Cond.fieldLink RX4 113 "Queuefloat$Payments" "made" "I", Cond.fieldLink RX4 239 "Queuefloat$Payments" "byPriority" "[I", Cond.fieldLink RX4 51 "Queuefloat" "small" "I", Cond.methodLink RX4 242 yX2_waitsAt, Cond.methodLink RX4 233 yX4_send, Cond.instanceMethod yX4_send, Cond.selects RX4 yX4_send yX4_send, Cond.code yX4_send cX4_send 2 none]
def wsX4_goThroughBanks_r3 : List Cond := [Cond.methodLink RX4 226 yX2_apply, Cond.instanceMethod yX2_apply, Cond.selects RX2 yX2_apply yX2_apply, Cond.code yX2_apply cX2_apply 3 none, Cond.fieldLink RX2 15 "Queuefloat$Payments" "to" "[I", Cond.fieldLink RX2 18 "Queuefloat$Payments" "amount" "[I", Cond.methodLink RX2 35 yX3_move, Cond.instanceMethod yX3_move, Cond.selects RX3 yX3_move yX3_move, Cond.initialized RX3, Cond.code yX3_move cX3_move 4 none, Cond.fieldLink RX3 9 "Queuefloat$Sums" "accountOf" "[I", Cond.methodLink RX2 41 yX3_notePaid, Cond.instanceMethod yX3_notePaid, Cond.selects RX3 yX3_notePaid yX3_notePaid, Cond.code yX3_notePaid cX3_notePaid 4 none, Cond.fieldLink RX3 15 "Queuefloat$Sums" "netPaid" "[I"]
def wsX4_goThroughBanks : List Cond := .code yX4_goThroughBanks cX4_goThroughBanks 4 (some .int) :: ((wsX4_goThroughBanks_r1 ++ (wsX4_goThroughBanks_r2 ++ wsX4_goThroughBanks_r3)) ++ wsX40 ++ wsX20 ++ wsX30 ++ wsX00)
def wsJ6_bitCount_0f7a4 : List Cond := .code yJ6_bitCount_0f7a4 cJ6_bitCount_0f7a4 1 (some .int) :: ([.constant RJ6 265 (1431655765), .constant RJ6 266 (858993459), .constant RJ6 267 (252645135)])
def wsX4_isIn : List Cond := .code yX4_isIn cX4_isIn 2 (some .boolean) :: ([])
def wsX4_canGoTogether_r1 : List Cond := [Cond.fieldLink RX4 16 "Queuefloat" "trial" "LQueuefloat$Sums;", Cond.fieldLink RX4 10 "Queuefloat" "sums" "LQueuefloat$Sums;", Cond.fieldLink RX4 48 "Queuefloat" "candidates" "[I", Cond.fieldLink RX4 29 "Queuefloat" "payments" "LQueuefloat$Payments;", Cond.fieldLink RX4 22 "Queuefloat" "limits" "LQueuefloat$Limits;", Cond.methodLink RX4 253 yX3_copy, Cond.instanceMethod yX3_copy, Cond.selects RX3 yX3_copy yX3_copy, Cond.initialized RX3, Cond.code yX3_copy cX3_copy 2 none, Cond.fieldLink RX3 9 "Queuefloat$Sums" "accountOf" "[I", Cond.methodLink RX3 22 arraycopyName, Cond.native arraycopyName, Cond.static arraycopyName, Cond.initialized "java/lang/System", Cond.fieldLink RX3 15 "Queuefloat$Sums" "netPaid" "[I", Cond.methodLink RX4 250 yX4_isIn, Cond.static yX4_isIn, Cond.initialized RX4, Cond.code yX4_isIn cX4_isIn 2 (some .boolean), Cond.methodLink RX4 226 yX2_apply, Cond.instanceMethod yX2_apply, Cond.selects RX2 yX2_apply yX2_apply, Cond.initialized RX2]
def wsX4_canGoTogether_r2 : List Cond := [Cond.code yX2_apply cX2_apply 3 none, Cond.fieldLink RX2 9 "Queuefloat$Payments" "from" "[I", Cond.fieldLink RX2 15 "Queuefloat$Payments" "to" "[I", Cond.fieldLink RX2 18 "Queuefloat$Payments" "amount" "[I", Cond.methodLink RX2 35 yX3_move, Cond.instanceMethod yX3_move, Cond.selects RX3 yX3_move yX3_move, Cond.code yX3_move cX3_move 4 none, Cond.methodLink RX2 41 yX3_notePaid, Cond.instanceMethod yX3_notePaid, Cond.selects RX3 yX3_notePaid yX3_notePaid, Cond.code yX3_notePaid cX3_notePaid 4 none, Cond.static yX4_pairOf, Cond.code yX4_pairOf cX4_pairOf 2 (some .int), Cond.methodLink RX4 257 yX0_allow, Cond.instanceMethod yX0_allow, Cond.selects RX0 yX0_allow yX0_allow, Cond.initialized RX0, Cond.code yX0_allow cX0_allow 3 (some .boolean), Cond.fieldLink RX0 19 "Queuefloat$Sums" "accountOf" "[I", Cond.fieldLink RX0 9 "Queuefloat$Limits" "floorOf" "[I", Cond.fieldLink RX0 24 "Queuefloat$Sums" "netPaid" "[I", Cond.fieldLink RX0 15 "Queuefloat$Limits" "boundOf" "[I"]
def wsX4_canGoTogether : List Cond := .code yX4_canGoTogether cX4_canGoTogether 4 (some .boolean) :: ((wsX4_canGoTogether_r1 ++ wsX4_canGoTogether_r2) ++ wsX40 ++ wsX30 ++ wsX20 ++ wsX00)
def wsX4_sendLargestSet_r1 : List Cond := [Cond.fieldLink RX4 48 "Queuefloat" "candidates" "[I", Cond.fieldLink RX4 29 "Queuefloat" "payments" "LQueuefloat$Payments;", Cond.methodLink RX4 145 yX2_inQueue, Cond.instanceMethod yX2_inQueue, Cond.selects RX2 yX2_inQueue yX2_inQueue, Cond.initialized RX2, Cond.code yX2_inQueue cX2_inQueue 5 (some .int), Cond.fieldLink RX2 31 "Queuefloat$Payments" "made" "I", Cond.fieldLink RX2 28 "Queuefloat$Payments" "byPriority" "[I", Cond.methodLink RX2 44 yX2_waitsAt, Cond.instanceMethod yX2_waitsAt, Cond.selects RX2 yX2_waitsAt yX2_waitsAt, Cond.code yX2_waitsAt cX2_waitsAt 3 (some .boolean), Cond.fieldLink RX2 24 "Queuefloat$Payments" "waits" "[Z", Cond.fieldLink RX2 9 "Queuefloat$Payments" "from" "[I", Cond.methodLink RX4 245 yJ6_bitCount_0f7a4, Cond.static yJ6_bitCount_0f7a4, Cond.initialized RJ6, Cond.code yJ6_bitCount_0f7a4 cJ6_bitCount_0f7a4 1 (some .int), Cond.constant RJ6 265 (1431655765), Cond.constant RJ6 266 (858993459), Cond.constant RJ6 267 (252645135), Cond.methodLink RX4 157 yX4_canGoTogether, Cond.instanceMethod yX4_canGoTogether]
def wsX4_sendLargestSet_r2 : List Cond := [Cond.selects RX4 yX4_canGoTogether yX4_canGoTogether, Cond.initialized RX4, Cond.code yX4_canGoTogether cX4_canGoTogether 4 (some .boolean), Cond.fieldLink RX4 16 "Queuefloat" "trial" "LQueuefloat$Sums;", Cond.fieldLink RX4 10 "Queuefloat" "sums" "LQueuefloat$Sums;", Cond.fieldLink RX4 22 "Queuefloat" "limits" "LQueuefloat$Limits;", Cond.methodLink RX4 253 yX3_copy, Cond.instanceMethod yX3_copy, Cond.selects RX3 yX3_copy yX3_copy, Cond.initialized RX3, Cond.code yX3_copy cX3_copy 2 none, Cond.fieldLink RX3 9 "Queuefloat$Sums" "accountOf" "[I", Cond.methodLink RX3 22 arraycopyName, Cond.native arraycopyName, Cond.static arraycopyName, Cond.initialized "java/lang/System", Cond.fieldLink RX3 15 "Queuefloat$Sums" "netPaid" "[I", Cond.methodLink RX4 250 yX4_isIn, Cond.static yX4_isIn, Cond.code yX4_isIn cX4_isIn 2 (some .boolean), Cond.methodLink RX4 226 yX2_apply, Cond.instanceMethod yX2_apply, Cond.selects RX2 yX2_apply yX2_apply, Cond.code yX2_apply cX2_apply 3 none]
def wsX4_sendLargestSet_r3 : List Cond := [Cond.fieldLink RX2 15 "Queuefloat$Payments" "to" "[I", Cond.fieldLink RX2 18 "Queuefloat$Payments" "amount" "[I", Cond.methodLink RX2 35 yX3_move, Cond.instanceMethod yX3_move, Cond.selects RX3 yX3_move yX3_move, Cond.code yX3_move cX3_move 4 none, Cond.methodLink RX2 41 yX3_notePaid, Cond.instanceMethod yX3_notePaid, Cond.selects RX3 yX3_notePaid yX3_notePaid, Cond.code yX3_notePaid cX3_notePaid 4 none, Cond.static yX4_pairOf, Cond.code yX4_pairOf cX4_pairOf 2 (some .int), Cond.methodLink RX4 257 yX0_allow, Cond.instanceMethod yX0_allow, Cond.selects RX0 yX0_allow yX0_allow, Cond.initialized RX0, Cond.code yX0_allow cX0_allow 3 (some .boolean), Cond.fieldLink RX0 19 "Queuefloat$Sums" "accountOf" "[I", Cond.fieldLink RX0 9 "Queuefloat$Limits" "floorOf" "[I", Cond.fieldLink RX0 24 "Queuefloat$Sums" "netPaid" "[I", Cond.fieldLink RX0 15 "Queuefloat$Limits" "boundOf" "[I", Cond.methodLink RX4 233 yX4_send, Cond.instanceMethod yX4_send, Cond.selects RX4 yX4_send yX4_send]
def wsX4_sendLargestSet_r4 : List Cond := [Cond.code yX4_send cX4_send 2 none, Cond.fieldLink RX4 125 "Queuefloat$Payments" "waits" "[Z"]
def wsX4_sendLargestSet : List Cond := .code yX4_sendLargestSet cX4_sendLargestSet 3 (some .int) :: ((wsX4_sendLargestSet_r1 ++ (wsX4_sendLargestSet_r2 ++ (wsX4_sendLargestSet_r3 ++ wsX4_sendLargestSet_r4))) ++ wsX40 ++ wsX20 ++ wsX30 ++ wsX00)
def wsX4_run_r1 : List Cond := [Cond.methodLink RX4 134 yX4_goThroughBanks, Cond.instanceMethod yX4_goThroughBanks, Cond.selects RX4 yX4_goThroughBanks yX4_goThroughBanks, Cond.initialized RX4, Cond.code yX4_goThroughBanks cX4_goThroughBanks 4 (some .int), Cond.methodLink RX4 230 yX4_nextToGo, Cond.instanceMethod yX4_nextToGo, Cond.selects RX4 yX4_nextToGo yX4_nextToGo, Cond.code yX4_nextToGo cX4_nextToGo 3 (some .int), Cond.fieldLink RX4 29 "Queuefloat" "payments" "LQueuefloat$Payments;", Cond.methodLink RX4 145 yX2_inQueue, Cond.instanceMethod yX2_inQueue, Cond.selects RX2 yX2_inQueue yX2_inQueue, Cond.initialized RX2, Cond.code yX2_inQueue cX2_inQueue 5 (some .int), Cond.fieldLink RX2 31 "Queuefloat$Payments" "made" "I", Cond.fieldLink RX2 28 "Queuefloat$Payments" "byPriority" "[I", Cond.methodLink RX2 44 yX2_waitsAt, Cond.instanceMethod yX2_waitsAt, Cond.selects RX2 yX2_waitsAt yX2_waitsAt, Cond.code yX2_waitsAt cX2_waitsAt 3 (some .boolean), Cond.fieldLink RX2 24 "Queuefloat$Payments" "waits" "[Z", Cond.fieldLink RX2 9 "Queuefloat$Payments" "from" "[I", Cond.methodLink RX4 148 yX4_obstacle]
def wsX4_run_r2 : List Cond := [Cond.instanceMethod yX4_obstacle, Cond.selects RX4 yX4_obstacle yX4_obstacle, Cond.code yX4_obstacle cX4_obstacle 5 (some .int), Cond.fieldLink RX4 125 "Queuefloat$Payments" "waits" "[Z", Cond.fieldLink RX4 217 "Queuefloat$Payments" "from" "[I", Cond.fieldLink RX4 220 "Queuefloat$Payments" "amount" "[I", Cond.fieldLink RX4 10 "Queuefloat" "sums" "LQueuefloat$Sums;", Cond.fieldLink RX4 73 "Queuefloat$Sums" "accountOf" "[I", Cond.fieldLink RX4 22 "Queuefloat" "limits" "LQueuefloat$Limits;", Cond.fieldLink RX4 91 "Queuefloat$Limits" "floorOf" "[I", Cond.fieldLink RX4 223 "Queuefloat$Payments" "to" "[I", Cond.fieldLink RX4 101 "Queuefloat$Sums" "netPaid" "[I", Cond.fieldLink RX4 107 "Queuefloat$Limits" "boundOf" "[I", Cond.methodLink RX4 98 yX4_pairOf, Cond.static yX4_pairOf, Cond.code yX4_pairOf cX4_pairOf 2 (some .int), Cond.methodLink RX4 236 yX4_firstSmallFree, Cond.instanceMethod yX4_firstSmallFree, Cond.selects RX4 yX4_firstSmallFree yX4_firstSmallFree, Cond.code yX4_firstSmallFree cX4_firstSmallFree 4 (some .int), Cond.fieldLink RX4 113 "Queuefloat$Payments" "made" "I", Cond.fieldLink RX4 239 "Queuefloat$Payments" "byPriority" "[I", Cond.fieldLink RX4 51 "Queuefloat" "small" "I", Cond.methodLink RX4 242 yX2_waitsAt]
def wsX4_run_r3 : List Cond := [Cond.methodLink RX4 233 yX4_send, Cond.instanceMethod yX4_send, Cond.selects RX4 yX4_send yX4_send, Cond.code yX4_send cX4_send 2 none, Cond.methodLink RX4 226 yX2_apply, Cond.instanceMethod yX2_apply, Cond.selects RX2 yX2_apply yX2_apply, Cond.code yX2_apply cX2_apply 3 none, Cond.fieldLink RX2 15 "Queuefloat$Payments" "to" "[I", Cond.fieldLink RX2 18 "Queuefloat$Payments" "amount" "[I", Cond.methodLink RX2 35 yX3_move, Cond.instanceMethod yX3_move, Cond.selects RX3 yX3_move yX3_move, Cond.initialized RX3, Cond.code yX3_move cX3_move 4 none, Cond.fieldLink RX3 9 "Queuefloat$Sums" "accountOf" "[I", Cond.methodLink RX2 41 yX3_notePaid, Cond.instanceMethod yX3_notePaid, Cond.selects RX3 yX3_notePaid yX3_notePaid, Cond.code yX3_notePaid cX3_notePaid 4 none, Cond.fieldLink RX3 15 "Queuefloat$Sums" "netPaid" "[I", Cond.methodLink RX4 137 yX4_sendLargestSet, Cond.instanceMethod yX4_sendLargestSet, Cond.selects RX4 yX4_sendLargestSet yX4_sendLargestSet]
def wsX4_run_r4 : List Cond := [Cond.code yX4_sendLargestSet cX4_sendLargestSet 3 (some .int), Cond.fieldLink RX4 48 "Queuefloat" "candidates" "[I", Cond.methodLink RX4 245 yJ6_bitCount_0f7a4, Cond.static yJ6_bitCount_0f7a4, Cond.initialized RJ6, Cond.code yJ6_bitCount_0f7a4 cJ6_bitCount_0f7a4 1 (some .int), Cond.constant RJ6 265 (1431655765), Cond.constant RJ6 266 (858993459), Cond.constant RJ6 267 (252645135), Cond.methodLink RX4 157 yX4_canGoTogether, Cond.instanceMethod yX4_canGoTogether, Cond.selects RX4 yX4_canGoTogether yX4_canGoTogether, Cond.code yX4_canGoTogether cX4_canGoTogether 4 (some .boolean), Cond.fieldLink RX4 16 "Queuefloat" "trial" "LQueuefloat$Sums;", Cond.methodLink RX4 253 yX3_copy, Cond.instanceMethod yX3_copy, Cond.selects RX3 yX3_copy yX3_copy, Cond.code yX3_copy cX3_copy 2 none, Cond.methodLink RX3 22 arraycopyName, Cond.native arraycopyName, Cond.static arraycopyName, Cond.initialized "java/lang/System", Cond.methodLink RX4 250 yX4_isIn, Cond.static yX4_isIn]
def wsX4_run_r5 : List Cond := [Cond.code yX4_isIn cX4_isIn 2 (some .boolean), Cond.methodLink RX4 257 yX0_allow, Cond.instanceMethod yX0_allow, Cond.selects RX0 yX0_allow yX0_allow, Cond.initialized RX0, Cond.code yX0_allow cX0_allow 3 (some .boolean), Cond.fieldLink RX0 19 "Queuefloat$Sums" "accountOf" "[I", Cond.fieldLink RX0 9 "Queuefloat$Limits" "floorOf" "[I", Cond.fieldLink RX0 24 "Queuefloat$Sums" "netPaid" "[I", Cond.fieldLink RX0 15 "Queuefloat$Limits" "boundOf" "[I"]
def wsX4_run : List Cond := .code yX4_run cX4_run 4 (some .int) :: ((wsX4_run_r1 ++ (wsX4_run_r2 ++ (wsX4_run_r3 ++ (wsX4_run_r4 ++ wsX4_run_r5)))) ++ wsX40 ++ wsX20 ++ wsX30 ++ wsX00)
def wsX4_queued : List Cond := .code yX4_queued cX4_queued 3 (some .int) :: ([.classLink RX4 140 "java/lang/IndexOutOfBoundsException", .initialized "java/lang/IndexOutOfBoundsException", .fieldLink RX4 29 "Queuefloat" "payments" "LQueuefloat$Payments;", .methodLink RX4 61 yX4_requireBank, .static yX4_requireBank, .initialized RX4, .code yX4_requireBank cX4_requireBank 1 none, .methodLink RX4 145 yX2_inQueue, .instanceMethod yX2_inQueue, .selects RX2 yX2_inQueue yX2_inQueue, .initialized RX2, .code yX2_inQueue cX2_inQueue 5 (some .int), .fieldLink RX2 31 "Queuefloat$Payments" "made" "I", .fieldLink RX2 28 "Queuefloat$Payments" "byPriority" "[I", .methodLink RX2 44 yX2_waitsAt, .instanceMethod yX2_waitsAt, .selects RX2 yX2_waitsAt yX2_waitsAt, .code yX2_waitsAt cX2_waitsAt 3 (some .boolean), .fieldLink RX2 24 "Queuefloat$Payments" "waits" "[Z", .fieldLink RX2 9 "Queuefloat$Payments" "from" "[I"] ++ wsX40 ++ wsX20 ++ (vx_atS RX4 144 "java/lang/IndexOutOfBoundsException" ["java/lang/RuntimeException", "java/lang/Exception"]).filter goodWord)
def wsX4_why_r1 : List Cond := [Cond.methodLink RX4 122 yX4_requirePayment, Cond.instanceMethod yX4_requirePayment, Cond.selects RX4 yX4_requirePayment yX4_requirePayment, Cond.initialized RX4, Cond.code yX4_requirePayment cX4_requirePayment 2 none, Cond.classLink RX4 140 "java/lang/IndexOutOfBoundsException", Cond.initialized "java/lang/IndexOutOfBoundsException", Cond.fieldLink RX4 29 "Queuefloat" "payments" "LQueuefloat$Payments;", Cond.fieldLink RX4 113 "Queuefloat$Payments" "made" "I", Cond.methodLink RX4 148 yX4_obstacle, Cond.instanceMethod yX4_obstacle, Cond.selects RX4 yX4_obstacle yX4_obstacle, Cond.code yX4_obstacle cX4_obstacle 5 (some .int), Cond.fieldLink RX4 125 "Queuefloat$Payments" "waits" "[Z", Cond.fieldLink RX4 217 "Queuefloat$Payments" "from" "[I", Cond.fieldLink RX4 220 "Queuefloat$Payments" "amount" "[I", Cond.fieldLink RX4 10 "Queuefloat" "sums" "LQueuefloat$Sums;", Cond.fieldLink RX4 73 "Queuefloat$Sums" "accountOf" "[I", Cond.fieldLink RX4 22 "Queuefloat" "limits" "LQueuefloat$Limits;", Cond.fieldLink RX4 91 "Queuefloat$Limits" "floorOf" "[I", Cond.fieldLink RX4 223 "Queuefloat$Payments" "to" "[I", Cond.fieldLink RX4 101 "Queuefloat$Sums" "netPaid" "[I", Cond.fieldLink RX4 107 "Queuefloat$Limits" "boundOf" "[I", Cond.methodLink RX4 98 yX4_pairOf]
def wsX4_why_r2 : List Cond := [Cond.static yX4_pairOf, Cond.code yX4_pairOf cX4_pairOf 2 (some .int)]
def wsX4_why : List Cond := .code yX4_why cX4_why 2 (some .int) :: ((wsX4_why_r1 ++ wsX4_why_r2) ++ wsX40 ++ wsX20 ++ wsX30 ++ wsX00 ++ (vx_atS RX4 144 "java/lang/IndexOutOfBoundsException" ["java/lang/RuntimeException", "java/lang/Exception"]).filter goodWord)
def wsX4_listWaiting : List Cond := .code yX4_listWaiting cX4_listWaiting 3 (some .int) :: ([.fieldLink RX4 29 "Queuefloat" "payments" "LQueuefloat$Payments;", .fieldLink RX4 113 "Queuefloat$Payments" "made" "I", .fieldLink RX4 125 "Queuefloat$Payments" "waits" "[Z", .fieldLink RX4 48 "Queuefloat" "candidates" "[I"] ++ wsX40 ++ wsX20)
def wsX4_canAny_r1 : List Cond := [Cond.classLink RX4 77 "java/lang/IllegalStateException", Cond.initialized "java/lang/IllegalStateException", Cond.fieldLink RX4 29 "Queuefloat" "payments" "LQueuefloat$Payments;", Cond.methodLink RX4 130 yX2_countWaiting, Cond.instanceMethod yX2_countWaiting, Cond.selects RX2 yX2_countWaiting yX2_countWaiting, Cond.initialized RX2, Cond.code yX2_countWaiting cX2_countWaiting 3 (some .int), Cond.fieldLink RX2 31 "Queuefloat$Payments" "made" "I", Cond.fieldLink RX2 24 "Queuefloat$Payments" "waits" "[Z", Cond.methodLink RX4 154 yX4_listWaiting, Cond.instanceMethod yX4_listWaiting, Cond.selects RX4 yX4_listWaiting yX4_listWaiting, Cond.initialized RX4, Cond.code yX4_listWaiting cX4_listWaiting 3 (some .int), Cond.fieldLink RX4 113 "Queuefloat$Payments" "made" "I", Cond.fieldLink RX4 125 "Queuefloat$Payments" "waits" "[Z", Cond.fieldLink RX4 48 "Queuefloat" "candidates" "[I", Cond.methodLink RX4 157 yX4_canGoTogether, Cond.instanceMethod yX4_canGoTogether, Cond.selects RX4 yX4_canGoTogether yX4_canGoTogether, Cond.code yX4_canGoTogether cX4_canGoTogether 4 (some .boolean), Cond.fieldLink RX4 16 "Queuefloat" "trial" "LQueuefloat$Sums;", Cond.fieldLink RX4 10 "Queuefloat" "sums" "LQueuefloat$Sums;"]
def wsX4_canAny_r2 : List Cond := [Cond.fieldLink RX4 22 "Queuefloat" "limits" "LQueuefloat$Limits;", Cond.methodLink RX4 253 yX3_copy, Cond.instanceMethod yX3_copy, Cond.selects RX3 yX3_copy yX3_copy, Cond.initialized RX3, Cond.code yX3_copy cX3_copy 2 none, Cond.fieldLink RX3 9 "Queuefloat$Sums" "accountOf" "[I", Cond.methodLink RX3 22 arraycopyName, Cond.native arraycopyName, Cond.static arraycopyName, Cond.initialized "java/lang/System", Cond.fieldLink RX3 15 "Queuefloat$Sums" "netPaid" "[I", Cond.methodLink RX4 250 yX4_isIn, Cond.static yX4_isIn, Cond.code yX4_isIn cX4_isIn 2 (some .boolean), Cond.methodLink RX4 226 yX2_apply, Cond.instanceMethod yX2_apply, Cond.selects RX2 yX2_apply yX2_apply, Cond.code yX2_apply cX2_apply 3 none, Cond.fieldLink RX2 9 "Queuefloat$Payments" "from" "[I", Cond.fieldLink RX2 15 "Queuefloat$Payments" "to" "[I", Cond.fieldLink RX2 18 "Queuefloat$Payments" "amount" "[I", Cond.methodLink RX2 35 yX3_move, Cond.instanceMethod yX3_move]
def wsX4_canAny_r3 : List Cond := [Cond.selects RX3 yX3_move yX3_move, Cond.code yX3_move cX3_move 4 none, Cond.methodLink RX2 41 yX3_notePaid, Cond.instanceMethod yX3_notePaid, Cond.selects RX3 yX3_notePaid yX3_notePaid, Cond.code yX3_notePaid cX3_notePaid 4 none, Cond.static yX4_pairOf, Cond.code yX4_pairOf cX4_pairOf 2 (some .int), Cond.methodLink RX4 257 yX0_allow, Cond.instanceMethod yX0_allow, Cond.selects RX0 yX0_allow yX0_allow, Cond.initialized RX0, Cond.code yX0_allow cX0_allow 3 (some .boolean), Cond.fieldLink RX0 19 "Queuefloat$Sums" "accountOf" "[I", Cond.fieldLink RX0 9 "Queuefloat$Limits" "floorOf" "[I", Cond.fieldLink RX0 24 "Queuefloat$Sums" "netPaid" "[I", Cond.fieldLink RX0 15 "Queuefloat$Limits" "boundOf" "[I"]
def wsX4_canAny : List Cond := .code yX4_canAny cX4_canAny 3 (some .boolean) :: ((wsX4_canAny_r1 ++ (wsX4_canAny_r2 ++ wsX4_canAny_r3)) ++ wsX40 ++ wsX20 ++ wsX30 ++ wsX00 ++ (vx_atS RX4 81 "java/lang/IllegalStateException" ["java/lang/RuntimeException", "java/lang/Exception"]).filter goodWord)
def wsX4_setPrice : List Cond := .code yX4_setPrice cX4_setPrice 3 none :: ([.fieldLink RX4 55 "Queuefloat" "paperPrice" "I", .fieldLink RX4 58 "Queuefloat" "paperCut" "I", .methodLink RX4 66 yX4_requireRange, .static yX4_requireRange, .initialized RX4, .code yX4_requireRange cX4_requireRange 3 none, .classLink RX4 197 "java/lang/IllegalArgumentException", .initialized "java/lang/IllegalArgumentException"] ++ wsX40 ++ (vx_atS RX4 201 "java/lang/IllegalArgumentException" ["java/lang/RuntimeException", "java/lang/Exception"]).filter goodWord)
def wsX4_pledgeWorth : List Cond := .code yX4_pledgeWorth cX4_pledgeWorth 2 (some .int) :: ([.fieldLink RX4 55 "Queuefloat" "paperPrice" "I", .fieldLink RX4 58 "Queuefloat" "paperCut" "I"] ++ wsX40)
def wsX4_requireLoanable : List Cond := .code yX4_requireLoanable cX4_requireLoanable 5 none :: ([.classLink RX4 77 "java/lang/IllegalStateException", .initialized "java/lang/IllegalStateException", .fieldLink RX4 36 "Queuefloat" "market" "LQueuefloat$Loans;", .fieldLink RX4 169 "Queuefloat$Loans" "made" "I", .fieldLink RX4 44 "Queuefloat" "papersOf" "[I", .fieldLink RX4 10 "Queuefloat" "sums" "LQueuefloat$Sums;", .fieldLink RX4 73 "Queuefloat$Sums" "accountOf" "[I", .fieldLink RX4 22 "Queuefloat" "limits" "LQueuefloat$Limits;", .fieldLink RX4 91 "Queuefloat$Limits" "floorOf" "[I", .methodLink RX4 210 yX4_pledgeWorth, .instanceMethod yX4_pledgeWorth, .selects RX4 yX4_pledgeWorth yX4_pledgeWorth, .initialized RX4, .code yX4_pledgeWorth cX4_pledgeWorth 2 (some .int), .fieldLink RX4 55 "Queuefloat" "paperPrice" "I", .fieldLink RX4 58 "Queuefloat" "paperCut" "I"] ++ wsX40 ++ wsX10 ++ wsX30 ++ wsX00 ++ (vx_atS RX4 81 "java/lang/IllegalStateException" ["java/lang/RuntimeException", "java/lang/Exception"]).filter goodWord)
def wsX4_lend_r1 : List Cond := [Cond.constant RX4 110 (100000), Cond.fieldLink RX4 10 "Queuefloat" "sums" "LQueuefloat$Sums;", Cond.fieldLink RX4 44 "Queuefloat" "papersOf" "[I", Cond.fieldLink RX4 36 "Queuefloat" "market" "LQueuefloat$Loans;", Cond.methodLink RX4 61 yX4_requireBank, Cond.static yX4_requireBank, Cond.initialized RX4, Cond.code yX4_requireBank cX4_requireBank 1 none, Cond.classLink RX4 140 "java/lang/IndexOutOfBoundsException", Cond.initialized "java/lang/IndexOutOfBoundsException", Cond.methodLink RX4 94 yX4_requireTwo, Cond.static yX4_requireTwo, Cond.code yX4_requireTwo cX4_requireTwo 2 none, Cond.classLink RX4 197 "java/lang/IllegalArgumentException", Cond.initialized "java/lang/IllegalArgumentException", Cond.methodLink RX4 66 yX4_requireRange, Cond.static yX4_requireRange, Cond.code yX4_requireRange cX4_requireRange 3 none, Cond.methodLink RX4 70 yX4_requireOpen, Cond.instanceMethod yX4_requireOpen, Cond.selects RX4 yX4_requireOpen yX4_requireOpen, Cond.code yX4_requireOpen cX4_requireOpen 2 none, Cond.classLink RX4 77 "java/lang/IllegalStateException", Cond.initialized "java/lang/IllegalStateException"]
def wsX4_lend_r2 : List Cond := [Cond.fieldLink RX4 40 "Queuefloat" "closed" "[Z", Cond.methodLink RX4 161 yX4_requireLoanable, Cond.instanceMethod yX4_requireLoanable, Cond.selects RX4 yX4_requireLoanable yX4_requireLoanable, Cond.code yX4_requireLoanable cX4_requireLoanable 5 none, Cond.fieldLink RX4 169 "Queuefloat$Loans" "made" "I", Cond.fieldLink RX4 73 "Queuefloat$Sums" "accountOf" "[I", Cond.fieldLink RX4 22 "Queuefloat" "limits" "LQueuefloat$Limits;", Cond.fieldLink RX4 91 "Queuefloat$Limits" "floorOf" "[I", Cond.methodLink RX4 210 yX4_pledgeWorth, Cond.instanceMethod yX4_pledgeWorth, Cond.selects RX4 yX4_pledgeWorth yX4_pledgeWorth, Cond.code yX4_pledgeWorth cX4_pledgeWorth 2 (some .int), Cond.fieldLink RX4 55 "Queuefloat" "paperPrice" "I", Cond.fieldLink RX4 58 "Queuefloat" "paperCut" "I", Cond.methodLink RX4 165 yX3_move, Cond.instanceMethod yX3_move, Cond.selects RX3 yX3_move yX3_move, Cond.initialized RX3, Cond.code yX3_move cX3_move 4 none, Cond.fieldLink RX3 9 "Queuefloat$Sums" "accountOf" "[I", Cond.methodLink RX4 168 yX1_enter, Cond.instanceMethod yX1_enter, Cond.selects RX1 yX1_enter yX1_enter]
def wsX4_lend_r3 : List Cond := [Cond.initialized RX1, Cond.code yX1_enter cX1_enter 6 (some .int), Cond.fieldLink RX1 24 "Queuefloat$Loans" "made" "I", Cond.fieldLink RX1 9 "Queuefloat$Loans" "lender" "[I", Cond.fieldLink RX1 15 "Queuefloat$Loans" "borrower" "[I", Cond.fieldLink RX1 18 "Queuefloat$Loans" "due" "[I", Cond.fieldLink RX1 21 "Queuefloat$Loans" "pledge" "[I"]
def wsX4_lend : List Cond := .code yX4_lend cX4_lend 6 (some .int) :: ((wsX4_lend_r1 ++ (wsX4_lend_r2 ++ wsX4_lend_r3)) ++ wsX40 ++ wsX10 ++ wsX30 ++ wsX00 ++ (vx_atS RX4 144 "java/lang/IndexOutOfBoundsException" ["java/lang/RuntimeException", "java/lang/Exception"]).filter goodWord ++ (vx_atS RX4 201 "java/lang/IllegalArgumentException" ["java/lang/RuntimeException", "java/lang/Exception"]).filter goodWord ++ (vx_atS RX4 81 "java/lang/IllegalStateException" ["java/lang/RuntimeException", "java/lang/Exception"]).filter goodWord)
def wsX4_loans : List Cond := .code yX4_loans cX4_loans 1 (some .int) :: ([.fieldLink RX4 36 "Queuefloat" "market" "LQueuefloat$Loans;", .fieldLink RX4 169 "Queuefloat$Loans" "made" "I", .fieldLink RX4 170 "Queuefloat$Loans" "ended" "I"] ++ wsX40 ++ wsX10)
def wsX4_canRepay : List Cond := .code yX4_canRepay cX4_canRepay 3 (some .boolean) :: ([.fieldLink RX4 36 "Queuefloat" "market" "LQueuefloat$Loans;", .fieldLink RX4 183 "Queuefloat$Loans" "borrower" "[I", .fieldLink RX4 40 "Queuefloat" "closed" "[Z", .fieldLink RX4 10 "Queuefloat" "sums" "LQueuefloat$Sums;", .fieldLink RX4 73 "Queuefloat$Sums" "accountOf" "[I", .fieldLink RX4 261 "Queuefloat$Loans" "due" "[I", .fieldLink RX4 22 "Queuefloat" "limits" "LQueuefloat$Limits;", .fieldLink RX4 91 "Queuefloat$Limits" "floorOf" "[I"] ++ wsX40 ++ wsX10 ++ wsX30 ++ wsX00)
def wsX4_repay : List Cond := .code yX4_repay cX4_repay 3 none :: ([.fieldLink RX4 36 "Queuefloat" "market" "LQueuefloat$Loans;", .fieldLink RX4 183 "Queuefloat$Loans" "borrower" "[I", .fieldLink RX4 10 "Queuefloat" "sums" "LQueuefloat$Sums;", .fieldLink RX4 264 "Queuefloat$Loans" "lender" "[I", .fieldLink RX4 261 "Queuefloat$Loans" "due" "[I", .fieldLink RX4 44 "Queuefloat" "papersOf" "[I", .fieldLink RX4 267 "Queuefloat$Loans" "pledge" "[I", .methodLink RX4 165 yX3_move, .instanceMethod yX3_move, .selects RX3 yX3_move yX3_move, .initialized RX3, .code yX3_move cX3_move 4 none, .fieldLink RX3 9 "Queuefloat$Sums" "accountOf" "[I"] ++ wsX40 ++ wsX10 ++ wsX30)
def wsX4_close : List Cond := .code yX4_close cX4_close 2 (some .int) :: ([.fieldLink RX4 40 "Queuefloat" "closed" "[Z", .fieldLink RX4 29 "Queuefloat" "payments" "LQueuefloat$Payments;", .methodLink RX4 270 yX2_dropAllOf, .instanceMethod yX2_dropAllOf, .selects RX2 yX2_dropAllOf yX2_dropAllOf, .initialized RX2, .code yX2_dropAllOf cX2_dropAllOf 3 none, .fieldLink RX2 31 "Queuefloat$Payments" "made" "I", .fieldLink RX2 9 "Queuefloat$Payments" "from" "[I", .fieldLink RX2 15 "Queuefloat$Payments" "to" "[I", .fieldLink RX2 24 "Queuefloat$Payments" "waits" "[Z"] ++ wsX40 ++ wsX20)
def wsX4_sellPledge : List Cond := .code yX4_sellPledge cX4_sellPledge 4 none :: ([.fieldLink RX4 36 "Queuefloat" "market" "LQueuefloat$Loans;", .fieldLink RX4 267 "Queuefloat$Loans" "pledge" "[I", .fieldLink RX4 55 "Queuefloat" "paperPrice" "I", .fieldLink RX4 261 "Queuefloat$Loans" "due" "[I", .methodLink RX4 85 Lib.Math.min.name, .static Lib.Math.min.name, .initialized "java/lang/Math", .code Lib.Math.min.name Lib.Math.min.code 2 (some .int), .fieldLink RX4 10 "Queuefloat" "sums" "LQueuefloat$Sums;", .fieldLink RX4 73 "Queuefloat$Sums" "accountOf" "[I", .fieldLink RX4 264 "Queuefloat$Loans" "lender" "[I", .fieldLink RX4 183 "Queuefloat$Loans" "borrower" "[I", .fieldLink RX4 192 "Queuefloat" "proceeds" "I"] ++ wsX40 ++ wsX10 ++ wsX30)
def wsX4_morning_r1 : List Cond := [Cond.fieldLink RX4 10 "Queuefloat" "sums" "LQueuefloat$Sums;", Cond.fieldLink RX4 36 "Queuefloat" "market" "LQueuefloat$Loans;", Cond.fieldLink RX4 170 "Queuefloat$Loans" "ended" "I", Cond.fieldLink RX4 169 "Queuefloat$Loans" "made" "I", Cond.fieldLink RX4 183 "Queuefloat$Loans" "borrower" "[I", Cond.methodLink RX4 173 yX3_forgetPaid, Cond.instanceMethod yX3_forgetPaid, Cond.selects RX3 yX3_forgetPaid yX3_forgetPaid, Cond.initialized RX3, Cond.code yX3_forgetPaid cX3_forgetPaid 2 none, Cond.fieldLink RX3 15 "Queuefloat$Sums" "netPaid" "[I", Cond.methodLink RX4 176 yX4_canRepay, Cond.instanceMethod yX4_canRepay, Cond.selects RX4 yX4_canRepay yX4_canRepay, Cond.initialized RX4, Cond.code yX4_canRepay cX4_canRepay 3 (some .boolean), Cond.fieldLink RX4 40 "Queuefloat" "closed" "[Z", Cond.fieldLink RX4 73 "Queuefloat$Sums" "accountOf" "[I", Cond.fieldLink RX4 261 "Queuefloat$Loans" "due" "[I", Cond.fieldLink RX4 22 "Queuefloat" "limits" "LQueuefloat$Limits;", Cond.fieldLink RX4 91 "Queuefloat$Limits" "floorOf" "[I", Cond.methodLink RX4 180 yX4_repay, Cond.instanceMethod yX4_repay, Cond.selects RX4 yX4_repay yX4_repay]
def wsX4_morning_r2 : List Cond := [Cond.code yX4_repay cX4_repay 3 none, Cond.fieldLink RX4 264 "Queuefloat$Loans" "lender" "[I", Cond.fieldLink RX4 44 "Queuefloat" "papersOf" "[I", Cond.fieldLink RX4 267 "Queuefloat$Loans" "pledge" "[I", Cond.methodLink RX4 165 yX3_move, Cond.instanceMethod yX3_move, Cond.selects RX3 yX3_move yX3_move, Cond.code yX3_move cX3_move 4 none, Cond.fieldLink RX3 9 "Queuefloat$Sums" "accountOf" "[I", Cond.methodLink RX4 186 yX4_close, Cond.instanceMethod yX4_close, Cond.selects RX4 yX4_close yX4_close, Cond.code yX4_close cX4_close 2 (some .int), Cond.fieldLink RX4 29 "Queuefloat" "payments" "LQueuefloat$Payments;", Cond.methodLink RX4 270 yX2_dropAllOf, Cond.instanceMethod yX2_dropAllOf, Cond.selects RX2 yX2_dropAllOf yX2_dropAllOf, Cond.initialized RX2, Cond.code yX2_dropAllOf cX2_dropAllOf 3 none, Cond.fieldLink RX2 31 "Queuefloat$Payments" "made" "I", Cond.fieldLink RX2 9 "Queuefloat$Payments" "from" "[I", Cond.fieldLink RX2 15 "Queuefloat$Payments" "to" "[I", Cond.fieldLink RX2 24 "Queuefloat$Payments" "waits" "[Z", Cond.methodLink RX4 189 yX4_sellPledge]
def wsX4_morning_r3 : List Cond := [Cond.instanceMethod yX4_sellPledge, Cond.selects RX4 yX4_sellPledge yX4_sellPledge, Cond.code yX4_sellPledge cX4_sellPledge 4 none, Cond.fieldLink RX4 55 "Queuefloat" "paperPrice" "I", Cond.methodLink RX4 85 Lib.Math.min.name, Cond.static Lib.Math.min.name, Cond.initialized "java/lang/Math", Cond.code Lib.Math.min.name Lib.Math.min.code 2 (some .int), Cond.fieldLink RX4 192 "Queuefloat" "proceeds" "I"]
def wsX4_morning : List Cond := .code yX4_morning cX4_morning 3 (some .int) :: ((wsX4_morning_r1 ++ (wsX4_morning_r2 ++ wsX4_morning_r3)) ++ wsX40 ++ wsX10 ++ wsX30 ++ wsX00 ++ wsX20)
def wsX4_sold : List Cond := .code yX4_sold cX4_sold 1 (some .int) :: ([.fieldLink RX4 192 "Queuefloat" "proceeds" "I"] ++ wsX40)
def wsX5_init_r1 : List Cond := [Cond.methodLink RX5 1 objectInit, Cond.instanceMethod objectInit, Cond.code objectInit ⟨#[0xb1]⟩ 1 none, Cond.arrayClass .int, Cond.fieldLink RX5 7 "QueuefloatModel" "account" "[I", Cond.fieldLink RX5 13 "QueuefloatModel" "floor" "[I", Cond.fieldLink RX5 16 "QueuefloatModel" "papers" "[I", Cond.arrayClass .boolean, Cond.fieldLink RX5 19 "QueuefloatModel" "isClosed" "[Z", Cond.fieldLink RX5 23 "QueuefloatModel" "paid" "[I", Cond.fieldLink RX5 26 "QueuefloatModel" "bound" "[I", Cond.fieldLink RX5 29 "QueuefloatModel" "from" "[I", Cond.fieldLink RX5 32 "QueuefloatModel" "to" "[I", Cond.fieldLink RX5 35 "QueuefloatModel" "amount" "[I", Cond.fieldLink RX5 38 "QueuefloatModel" "priority" "[I", Cond.fieldLink RX5 41 "QueuefloatModel" "isWaiting" "[Z", Cond.fieldLink RX5 44 "QueuefloatModel" "small" "I", Cond.fieldLink RX5 48 "QueuefloatModel" "first" "[I", Cond.fieldLink RX5 51 "QueuefloatModel" "lender" "[I", Cond.fieldLink RX5 54 "QueuefloatModel" "borrower" "[I", Cond.fieldLink RX5 57 "QueuefloatModel" "lent" "[I", Cond.fieldLink RX5 60 "QueuefloatModel" "rate" "[I", Cond.fieldLink RX5 63 "QueuefloatModel" "pledged" "[I", Cond.fieldLink RX5 66 "QueuefloatModel" "isOpen" "[Z"]
def wsX5_init_r2 : List Cond := [Cond.fieldLink RX5 69 "QueuefloatModel" "price" "I", Cond.fieldLink RX5 72 "QueuefloatModel" "cut" "I", Cond.constant RX5 75 (1000000)]
def wsX5_init : List Cond := .code yX5_init cX5_init 2 none :: ((wsX5_init_r1 ++ wsX5_init_r2) ++ wsX50)
def wsX5_thrown : List Cond := .code yX5_thrown cX5_thrown 1 (some .int) :: ([.fieldLink RX5 76 "QueuefloatModel" "thrown" "I"] ++ wsX50)
def wsX5_fails : List Cond := .code yX5_fails cX5_fails 2 (some .int) :: ([.fieldLink RX5 76 "QueuefloatModel" "thrown" "I"] ++ wsX50)
def wsX5_asks : List Cond := .code yX5_asks cX5_asks 2 (some .boolean) :: ([.fieldLink RX5 76 "QueuefloatModel" "thrown" "I"] ++ wsX50)
def wsX5_in : List Cond := .code yX5_in cX5_in 3 (some .boolean) :: ([])
def wsX5_isBank : List Cond := .code yX5_isBank cX5_isBank 1 (some .boolean) :: ([])
def wsX5_isPayment : List Cond := .code yX5_isPayment cX5_isPayment 2 (some .boolean) :: ([.fieldLink RX5 79 "QueuefloatModel" "payments" "I"] ++ wsX50)
def wsX5_fund : List Cond := .code yX5_fund cX5_fund 3 (some .int) :: ([.constant RX5 75 (1000000), .fieldLink RX5 19 "QueuefloatModel" "isClosed" "[Z", .fieldLink RX5 7 "QueuefloatModel" "account" "[I", .constant RX5 98 (100000000), .methodLink RX5 82 yX5_isBank, .static yX5_isBank, .initialized RX5, .code yX5_isBank cX5_isBank 1 (some .boolean), .methodLink RX5 86 yX5_asks, .instanceMethod yX5_asks, .selects RX5 yX5_asks yX5_asks, .code yX5_asks cX5_asks 2 (some .boolean), .fieldLink RX5 76 "QueuefloatModel" "thrown" "I", .methodLink RX5 90 yX5_in, .static yX5_in, .code yX5_in cX5_in 3 (some .boolean), .methodLink RX5 94 yX5_fails, .instanceMethod yX5_fails, .selects RX5 yX5_fails yX5_fails, .code yX5_fails cX5_fails 2 (some .int)] ++ wsX50)
def wsX5_setFloor : List Cond := .code yX5_setFloor cX5_setFloor 4 (some .int) :: ([.constant RX5 99 (-1000000), .fieldLink RX5 7 "QueuefloatModel" "account" "[I", .fieldLink RX5 13 "QueuefloatModel" "floor" "[I", .methodLink RX5 82 yX5_isBank, .static yX5_isBank, .initialized RX5, .code yX5_isBank cX5_isBank 1 (some .boolean), .methodLink RX5 86 yX5_asks, .instanceMethod yX5_asks, .selects RX5 yX5_asks yX5_asks, .code yX5_asks cX5_asks 2 (some .boolean), .fieldLink RX5 76 "QueuefloatModel" "thrown" "I", .methodLink RX5 90 yX5_in, .static yX5_in, .code yX5_in cX5_in 3 (some .boolean), .methodLink RX5 94 yX5_fails, .instanceMethod yX5_fails, .selects RX5 yX5_fails yX5_fails, .code yX5_fails cX5_fails 2 (some .int)] ++ wsX50)
def wsX5_setBound : List Cond := .code yX5_setBound cX5_setBound 6 (some .int) :: ([.constant RX5 75 (1000000), .fieldLink RX5 23 "QueuefloatModel" "paid" "[I", .fieldLink RX5 26 "QueuefloatModel" "bound" "[I", .methodLink RX5 82 yX5_isBank, .static yX5_isBank, .initialized RX5, .code yX5_isBank cX5_isBank 1 (some .boolean), .methodLink RX5 86 yX5_asks, .instanceMethod yX5_asks, .selects RX5 yX5_asks yX5_asks, .code yX5_asks cX5_asks 2 (some .boolean), .fieldLink RX5 76 "QueuefloatModel" "thrown" "I", .methodLink RX5 90 yX5_in, .static yX5_in, .code yX5_in cX5_in 3 (some .boolean), .methodLink RX5 94 yX5_fails, .instanceMethod yX5_fails, .selects RX5 yX5_fails yX5_fails, .code yX5_fails cX5_fails 2 (some .int)] ++ wsX50)
def wsX5_givePapers : List Cond := .code yX5_givePapers cX5_givePapers 3 (some .int) :: ([.fieldLink RX5 19 "QueuefloatModel" "isClosed" "[Z", .fieldLink RX5 16 "QueuefloatModel" "papers" "[I", .constant RX5 100 (100000), .methodLink RX5 82 yX5_isBank, .static yX5_isBank, .initialized RX5, .code yX5_isBank cX5_isBank 1 (some .boolean), .methodLink RX5 86 yX5_asks, .instanceMethod yX5_asks, .selects RX5 yX5_asks yX5_asks, .code yX5_asks cX5_asks 2 (some .boolean), .fieldLink RX5 76 "QueuefloatModel" "thrown" "I", .methodLink RX5 90 yX5_in, .static yX5_in, .code yX5_in cX5_in 3 (some .boolean), .methodLink RX5 94 yX5_fails, .instanceMethod yX5_fails, .selects RX5 yX5_fails yX5_fails, .code yX5_fails cX5_fails 2 (some .int)] ++ wsX50)
def wsX5_account : List Cond := .code yX5_account cX5_account 2 (some .int) :: ([.fieldLink RX5 7 "QueuefloatModel" "account" "[I", .methodLink RX5 82 yX5_isBank, .static yX5_isBank, .initialized RX5, .code yX5_isBank cX5_isBank 1 (some .boolean), .methodLink RX5 86 yX5_asks, .instanceMethod yX5_asks, .selects RX5 yX5_asks yX5_asks, .code yX5_asks cX5_asks 2 (some .boolean), .fieldLink RX5 76 "QueuefloatModel" "thrown" "I"] ++ wsX50)
def wsX5_papers : List Cond := .code yX5_papers cX5_papers 2 (some .int) :: ([.fieldLink RX5 16 "QueuefloatModel" "papers" "[I", .methodLink RX5 82 yX5_isBank, .static yX5_isBank, .initialized RX5, .code yX5_isBank cX5_isBank 1 (some .boolean), .methodLink RX5 86 yX5_asks, .instanceMethod yX5_asks, .selects RX5 yX5_asks yX5_asks, .code yX5_asks cX5_asks 2 (some .boolean), .fieldLink RX5 76 "QueuefloatModel" "thrown" "I"] ++ wsX50)
def wsX5_isOpen : List Cond := .code yX5_isOpen cX5_isOpen 2 (some .boolean) :: ([.fieldLink RX5 19 "QueuefloatModel" "isClosed" "[Z", .methodLink RX5 82 yX5_isBank, .static yX5_isBank, .initialized RX5, .code yX5_isBank cX5_isBank 1 (some .boolean), .methodLink RX5 86 yX5_asks, .instanceMethod yX5_asks, .selects RX5 yX5_asks yX5_asks, .code yX5_asks cX5_asks 2 (some .boolean), .fieldLink RX5 76 "QueuefloatModel" "thrown" "I"] ++ wsX50)
def wsX5_paid : List Cond := .code yX5_paid cX5_paid 3 (some .int) :: ([.fieldLink RX5 23 "QueuefloatModel" "paid" "[I", .methodLink RX5 82 yX5_isBank, .static yX5_isBank, .initialized RX5, .code yX5_isBank cX5_isBank 1 (some .boolean), .methodLink RX5 86 yX5_asks, .instanceMethod yX5_asks, .selects RX5 yX5_asks yX5_asks, .code yX5_asks cX5_asks 2 (some .boolean), .fieldLink RX5 76 "QueuefloatModel" "thrown" "I"] ++ wsX50)
def wsX5_pay : List Cond := .code yX5_pay cX5_pay 5 (some .int) :: ([.constant RX5 100 (100000), .fieldLink RX5 19 "QueuefloatModel" "isClosed" "[Z", .fieldLink RX5 79 "QueuefloatModel" "payments" "I", .fieldLink RX5 29 "QueuefloatModel" "from" "[I", .fieldLink RX5 32 "QueuefloatModel" "to" "[I", .fieldLink RX5 35 "QueuefloatModel" "amount" "[I", .fieldLink RX5 38 "QueuefloatModel" "priority" "[I", .fieldLink RX5 41 "QueuefloatModel" "isWaiting" "[Z", .methodLink RX5 82 yX5_isBank, .static yX5_isBank, .initialized RX5, .code yX5_isBank cX5_isBank 1 (some .boolean), .methodLink RX5 86 yX5_asks, .instanceMethod yX5_asks, .selects RX5 yX5_asks yX5_asks, .code yX5_asks cX5_asks 2 (some .boolean), .fieldLink RX5 76 "QueuefloatModel" "thrown" "I", .methodLink RX5 90 yX5_in, .static yX5_in, .code yX5_in cX5_in 3 (some .boolean), .methodLink RX5 94 yX5_fails, .instanceMethod yX5_fails, .selects RX5 yX5_fails yX5_fails, .code yX5_fails cX5_fails 2 (some .int)] ++ wsX50)
def wsX5_waiting : List Cond := .code yX5_waiting cX5_waiting 3 (some .int) :: ([.fieldLink RX5 79 "QueuefloatModel" "payments" "I", .fieldLink RX5 41 "QueuefloatModel" "isWaiting" "[Z"] ++ wsX50)
def wsX5_drop : List Cond := .code yX5_drop cX5_drop 2 (some .int) :: ([.fieldLink RX5 41 "QueuefloatModel" "isWaiting" "[Z", .methodLink RX5 101 yX5_isPayment, .instanceMethod yX5_isPayment, .selects RX5 yX5_isPayment yX5_isPayment, .initialized RX5, .code yX5_isPayment cX5_isPayment 2 (some .boolean), .fieldLink RX5 79 "QueuefloatModel" "payments" "I", .methodLink RX5 86 yX5_asks, .instanceMethod yX5_asks, .selects RX5 yX5_asks yX5_asks, .code yX5_asks cX5_asks 2 (some .boolean), .fieldLink RX5 76 "QueuefloatModel" "thrown" "I", .methodLink RX5 94 yX5_fails, .instanceMethod yX5_fails, .selects RX5 yX5_fails yX5_fails, .code yX5_fails cX5_fails 2 (some .int), .methodLink RX5 104 yX5_waiting, .instanceMethod yX5_waiting, .selects RX5 yX5_waiting yX5_waiting, .code yX5_waiting cX5_waiting 3 (some .int)] ++ wsX50)
def wsX5_setSmall : List Cond := .code yX5_setSmall cX5_setSmall 3 (some .int) :: ([.constant RX5 100 (100000), .fieldLink RX5 44 "QueuefloatModel" "small" "I", .methodLink RX5 90 yX5_in, .static yX5_in, .initialized RX5, .code yX5_in cX5_in 3 (some .boolean), .methodLink RX5 86 yX5_asks, .instanceMethod yX5_asks, .selects RX5 yX5_asks yX5_asks, .code yX5_asks cX5_asks 2 (some .boolean), .fieldLink RX5 76 "QueuefloatModel" "thrown" "I"] ++ wsX50)
def wsX5_at : List Cond := .code yX5_at cX5_at 6 (some .int) :: ([.fieldLink RX5 79 "QueuefloatModel" "payments" "I", .fieldLink RX5 41 "QueuefloatModel" "isWaiting" "[Z", .fieldLink RX5 29 "QueuefloatModel" "from" "[I", .fieldLink RX5 38 "QueuefloatModel" "priority" "[I"] ++ wsX50)
def wsX5_reason : List Cond := .code yX5_reason cX5_reason 4 (some .int) :: ([.fieldLink RX5 29 "QueuefloatModel" "from" "[I", .fieldLink RX5 32 "QueuefloatModel" "to" "[I", .fieldLink RX5 41 "QueuefloatModel" "isWaiting" "[Z", .fieldLink RX5 7 "QueuefloatModel" "account" "[I", .fieldLink RX5 35 "QueuefloatModel" "amount" "[I", .fieldLink RX5 13 "QueuefloatModel" "floor" "[I", .fieldLink RX5 23 "QueuefloatModel" "paid" "[I", .fieldLink RX5 26 "QueuefloatModel" "bound" "[I"] ++ wsX50)
def wsX5_moves : List Cond := .code yX5_moves cX5_moves 4 none :: ([.fieldLink RX5 35 "QueuefloatModel" "amount" "[I", .fieldLink RX5 7 "QueuefloatModel" "account" "[I", .fieldLink RX5 29 "QueuefloatModel" "from" "[I", .fieldLink RX5 32 "QueuefloatModel" "to" "[I", .fieldLink RX5 23 "QueuefloatModel" "paid" "[I"] ++ wsX50)
def wsX5_goes : List Cond := .code yX5_goes cX5_goes 2 none :: ([.fieldLink RX5 41 "QueuefloatModel" "isWaiting" "[Z", .methodLink RX5 108 yX5_moves, .instanceMethod yX5_moves, .selects RX5 yX5_moves yX5_moves, .initialized RX5, .code yX5_moves cX5_moves 4 none, .fieldLink RX5 35 "QueuefloatModel" "amount" "[I", .fieldLink RX5 7 "QueuefloatModel" "account" "[I", .fieldLink RX5 29 "QueuefloatModel" "from" "[I", .fieldLink RX5 32 "QueuefloatModel" "to" "[I", .fieldLink RX5 23 "QueuefloatModel" "paid" "[I"] ++ wsX50)
def wsX5_isSound : List Cond := .code yX5_isSound cX5_isSound 3 (some .boolean) :: ([.fieldLink RX5 7 "QueuefloatModel" "account" "[I", .fieldLink RX5 13 "QueuefloatModel" "floor" "[I", .fieldLink RX5 23 "QueuefloatModel" "paid" "[I", .fieldLink RX5 26 "QueuefloatModel" "bound" "[I"] ++ wsX50)
def wsX5_next : List Cond := .code yX5_next cX5_next 5 (some .int) :: ([.fieldLink RX5 35 "QueuefloatModel" "amount" "[I", .fieldLink RX5 44 "QueuefloatModel" "small" "I", .methodLink RX5 112 yX5_at, .instanceMethod yX5_at, .selects RX5 yX5_at yX5_at, .initialized RX5, .code yX5_at cX5_at 6 (some .int), .fieldLink RX5 79 "QueuefloatModel" "payments" "I", .fieldLink RX5 41 "QueuefloatModel" "isWaiting" "[Z", .fieldLink RX5 29 "QueuefloatModel" "from" "[I", .fieldLink RX5 38 "QueuefloatModel" "priority" "[I", .methodLink RX5 116 yX5_reason, .instanceMethod yX5_reason, .selects RX5 yX5_reason yX5_reason, .code yX5_reason cX5_reason 4 (some .int), .fieldLink RX5 32 "QueuefloatModel" "to" "[I", .fieldLink RX5 7 "QueuefloatModel" "account" "[I", .fieldLink RX5 13 "QueuefloatModel" "floor" "[I", .fieldLink RX5 23 "QueuefloatModel" "paid" "[I", .fieldLink RX5 26 "QueuefloatModel" "bound" "[I"] ++ wsX50)
def wsX5_firsts : List Cond := .code yX5_firsts cX5_firsts 3 none :: ([.fieldLink RX5 48 "QueuefloatModel" "first" "[I", .methodLink RX5 112 yX5_at, .instanceMethod yX5_at, .selects RX5 yX5_at yX5_at, .initialized RX5, .code yX5_at cX5_at 6 (some .int), .fieldLink RX5 79 "QueuefloatModel" "payments" "I", .fieldLink RX5 41 "QueuefloatModel" "isWaiting" "[Z", .fieldLink RX5 29 "QueuefloatModel" "from" "[I", .fieldLink RX5 38 "QueuefloatModel" "priority" "[I"] ++ wsX50)
def wsX5_isSet_r1 : List Cond := [Cond.fieldLink RX5 48 "QueuefloatModel" "first" "[I", Cond.methodLink RX5 122 yX5_firsts, Cond.instanceMethod yX5_firsts, Cond.selects RX5 yX5_firsts yX5_firsts, Cond.initialized RX5, Cond.code yX5_firsts cX5_firsts 3 none, Cond.methodLink RX5 112 yX5_at, Cond.instanceMethod yX5_at, Cond.selects RX5 yX5_at yX5_at, Cond.code yX5_at cX5_at 6 (some .int), Cond.fieldLink RX5 79 "QueuefloatModel" "payments" "I", Cond.fieldLink RX5 41 "QueuefloatModel" "isWaiting" "[Z", Cond.fieldLink RX5 29 "QueuefloatModel" "from" "[I", Cond.fieldLink RX5 38 "QueuefloatModel" "priority" "[I", Cond.methodLink RX5 108 yX5_moves, Cond.instanceMethod yX5_moves, Cond.selects RX5 yX5_moves yX5_moves, Cond.code yX5_moves cX5_moves 4 none, Cond.fieldLink RX5 35 "QueuefloatModel" "amount" "[I", Cond.fieldLink RX5 7 "QueuefloatModel" "account" "[I", Cond.fieldLink RX5 32 "QueuefloatModel" "to" "[I", Cond.fieldLink RX5 23 "QueuefloatModel" "paid" "[I", Cond.methodLink RX5 129 yX5_isSound, Cond.instanceMethod yX5_isSound]
def wsX5_isSet_r2 : List Cond := [Cond.selects RX5 yX5_isSound yX5_isSound, Cond.code yX5_isSound cX5_isSound 3 (some .boolean), Cond.fieldLink RX5 13 "QueuefloatModel" "floor" "[I", Cond.fieldLink RX5 26 "QueuefloatModel" "bound" "[I"]
def wsX5_isSet : List Cond := .code yX5_isSet cX5_isSet 4 (some .boolean) :: ((wsX5_isSet_r1 ++ wsX5_isSet_r2) ++ wsX50)
def wsX5_goTogether_r1 : List Cond := [Cond.fieldLink RX5 48 "QueuefloatModel" "first" "[I", Cond.methodLink RX5 112 yX5_at, Cond.instanceMethod yX5_at, Cond.selects RX5 yX5_at yX5_at, Cond.initialized RX5, Cond.code yX5_at cX5_at 6 (some .int), Cond.fieldLink RX5 79 "QueuefloatModel" "payments" "I", Cond.fieldLink RX5 41 "QueuefloatModel" "isWaiting" "[Z", Cond.fieldLink RX5 29 "QueuefloatModel" "from" "[I", Cond.fieldLink RX5 38 "QueuefloatModel" "priority" "[I", Cond.methodLink RX5 119 yX5_isSet, Cond.instanceMethod yX5_isSet, Cond.selects RX5 yX5_isSet yX5_isSet, Cond.code yX5_isSet cX5_isSet 4 (some .boolean), Cond.methodLink RX5 122 yX5_firsts, Cond.instanceMethod yX5_firsts, Cond.selects RX5 yX5_firsts yX5_firsts, Cond.code yX5_firsts cX5_firsts 3 none, Cond.methodLink RX5 108 yX5_moves, Cond.instanceMethod yX5_moves, Cond.selects RX5 yX5_moves yX5_moves, Cond.code yX5_moves cX5_moves 4 none, Cond.fieldLink RX5 35 "QueuefloatModel" "amount" "[I", Cond.fieldLink RX5 7 "QueuefloatModel" "account" "[I"]
def wsX5_goTogether_r2 : List Cond := [Cond.fieldLink RX5 32 "QueuefloatModel" "to" "[I", Cond.fieldLink RX5 23 "QueuefloatModel" "paid" "[I", Cond.methodLink RX5 129 yX5_isSound, Cond.instanceMethod yX5_isSound, Cond.selects RX5 yX5_isSound yX5_isSound, Cond.code yX5_isSound cX5_isSound 3 (some .boolean), Cond.fieldLink RX5 13 "QueuefloatModel" "floor" "[I", Cond.fieldLink RX5 26 "QueuefloatModel" "bound" "[I", Cond.methodLink RX5 126 yX5_goes, Cond.instanceMethod yX5_goes, Cond.selects RX5 yX5_goes yX5_goes, Cond.code yX5_goes cX5_goes 2 none]
def wsX5_goTogether : List Cond := .code yX5_goTogether cX5_goTogether 8 (some .int) :: ((wsX5_goTogether_r1 ++ wsX5_goTogether_r2) ++ wsX50)
def wsX5_run_r1 : List Cond := [Cond.fieldLink RX5 76 "QueuefloatModel" "thrown" "I", Cond.methodLink RX5 133 yX5_next, Cond.instanceMethod yX5_next, Cond.selects RX5 yX5_next yX5_next, Cond.initialized RX5, Cond.code yX5_next cX5_next 5 (some .int), Cond.fieldLink RX5 35 "QueuefloatModel" "amount" "[I", Cond.fieldLink RX5 44 "QueuefloatModel" "small" "I", Cond.methodLink RX5 112 yX5_at, Cond.instanceMethod yX5_at, Cond.selects RX5 yX5_at yX5_at, Cond.code yX5_at cX5_at 6 (some .int), Cond.fieldLink RX5 79 "QueuefloatModel" "payments" "I", Cond.fieldLink RX5 41 "QueuefloatModel" "isWaiting" "[Z", Cond.fieldLink RX5 29 "QueuefloatModel" "from" "[I", Cond.fieldLink RX5 38 "QueuefloatModel" "priority" "[I", Cond.methodLink RX5 116 yX5_reason, Cond.instanceMethod yX5_reason, Cond.selects RX5 yX5_reason yX5_reason, Cond.code yX5_reason cX5_reason 4 (some .int), Cond.fieldLink RX5 32 "QueuefloatModel" "to" "[I", Cond.fieldLink RX5 7 "QueuefloatModel" "account" "[I", Cond.fieldLink RX5 13 "QueuefloatModel" "floor" "[I", Cond.fieldLink RX5 23 "QueuefloatModel" "paid" "[I"]
def wsX5_run_r2 : List Cond := [Cond.fieldLink RX5 26 "QueuefloatModel" "bound" "[I", Cond.methodLink RX5 126 yX5_goes, Cond.instanceMethod yX5_goes, Cond.selects RX5 yX5_goes yX5_goes, Cond.code yX5_goes cX5_goes 2 none, Cond.methodLink RX5 108 yX5_moves, Cond.instanceMethod yX5_moves, Cond.selects RX5 yX5_moves yX5_moves, Cond.code yX5_moves cX5_moves 4 none, Cond.methodLink RX5 136 yX5_goTogether, Cond.instanceMethod yX5_goTogether, Cond.selects RX5 yX5_goTogether yX5_goTogether, Cond.code yX5_goTogether cX5_goTogether 8 (some .int), Cond.fieldLink RX5 48 "QueuefloatModel" "first" "[I", Cond.methodLink RX5 119 yX5_isSet, Cond.instanceMethod yX5_isSet, Cond.selects RX5 yX5_isSet yX5_isSet, Cond.code yX5_isSet cX5_isSet 4 (some .boolean), Cond.methodLink RX5 122 yX5_firsts, Cond.instanceMethod yX5_firsts, Cond.selects RX5 yX5_firsts yX5_firsts, Cond.code yX5_firsts cX5_firsts 3 none, Cond.methodLink RX5 129 yX5_isSound, Cond.instanceMethod yX5_isSound]
def wsX5_run_r3 : List Cond := [Cond.selects RX5 yX5_isSound yX5_isSound, Cond.code yX5_isSound cX5_isSound 3 (some .boolean)]
def wsX5_run : List Cond := .code yX5_run cX5_run 6 (some .int) :: ((wsX5_run_r1 ++ (wsX5_run_r2 ++ wsX5_run_r3)) ++ wsX50)
def wsX5_queued : List Cond := .code yX5_queued cX5_queued 3 (some .int) :: ([.methodLink RX5 82 yX5_isBank, .static yX5_isBank, .initialized RX5, .code yX5_isBank cX5_isBank 1 (some .boolean), .methodLink RX5 86 yX5_asks, .instanceMethod yX5_asks, .selects RX5 yX5_asks yX5_asks, .code yX5_asks cX5_asks 2 (some .boolean), .fieldLink RX5 76 "QueuefloatModel" "thrown" "I", .methodLink RX5 112 yX5_at, .instanceMethod yX5_at, .selects RX5 yX5_at yX5_at, .code yX5_at cX5_at 6 (some .int), .fieldLink RX5 79 "QueuefloatModel" "payments" "I", .fieldLink RX5 41 "QueuefloatModel" "isWaiting" "[Z", .fieldLink RX5 29 "QueuefloatModel" "from" "[I", .fieldLink RX5 38 "QueuefloatModel" "priority" "[I"] ++ wsX50)
def wsX5_why : List Cond := .code yX5_why cX5_why 2 (some .int) :: ([.methodLink RX5 101 yX5_isPayment, .instanceMethod yX5_isPayment, .selects RX5 yX5_isPayment yX5_isPayment, .initialized RX5, .code yX5_isPayment cX5_isPayment 2 (some .boolean), .fieldLink RX5 79 "QueuefloatModel" "payments" "I", .methodLink RX5 86 yX5_asks, .instanceMethod yX5_asks, .selects RX5 yX5_asks yX5_asks, .code yX5_asks cX5_asks 2 (some .boolean), .fieldLink RX5 76 "QueuefloatModel" "thrown" "I", .methodLink RX5 116 yX5_reason, .instanceMethod yX5_reason, .selects RX5 yX5_reason yX5_reason, .code yX5_reason cX5_reason 4 (some .int), .fieldLink RX5 29 "QueuefloatModel" "from" "[I", .fieldLink RX5 32 "QueuefloatModel" "to" "[I", .fieldLink RX5 41 "QueuefloatModel" "isWaiting" "[Z", .fieldLink RX5 7 "QueuefloatModel" "account" "[I", .fieldLink RX5 35 "QueuefloatModel" "amount" "[I", .fieldLink RX5 13 "QueuefloatModel" "floor" "[I", .fieldLink RX5 23 "QueuefloatModel" "paid" "[I", .fieldLink RX5 26 "QueuefloatModel" "bound" "[I"] ++ wsX50)
def wsX5_moveSet : List Cond := .code yX5_moveSet cX5_moveSet 5 none :: ([.fieldLink RX5 79 "QueuefloatModel" "payments" "I", .fieldLink RX5 41 "QueuefloatModel" "isWaiting" "[Z", .methodLink RX5 108 yX5_moves, .instanceMethod yX5_moves, .selects RX5 yX5_moves yX5_moves, .initialized RX5, .code yX5_moves cX5_moves 4 none, .fieldLink RX5 35 "QueuefloatModel" "amount" "[I", .fieldLink RX5 7 "QueuefloatModel" "account" "[I", .fieldLink RX5 29 "QueuefloatModel" "from" "[I", .fieldLink RX5 32 "QueuefloatModel" "to" "[I", .fieldLink RX5 23 "QueuefloatModel" "paid" "[I"] ++ wsX50)
def wsX5_canAny_r1 : List Cond := [Cond.methodLink RX5 104 yX5_waiting, Cond.instanceMethod yX5_waiting, Cond.selects RX5 yX5_waiting yX5_waiting, Cond.initialized RX5, Cond.code yX5_waiting cX5_waiting 3 (some .int), Cond.fieldLink RX5 79 "QueuefloatModel" "payments" "I", Cond.fieldLink RX5 41 "QueuefloatModel" "isWaiting" "[Z", Cond.methodLink RX5 86 yX5_asks, Cond.instanceMethod yX5_asks, Cond.selects RX5 yX5_asks yX5_asks, Cond.code yX5_asks cX5_asks 2 (some .boolean), Cond.fieldLink RX5 76 "QueuefloatModel" "thrown" "I", Cond.methodLink RX5 139 yX5_moveSet, Cond.instanceMethod yX5_moveSet, Cond.selects RX5 yX5_moveSet yX5_moveSet, Cond.code yX5_moveSet cX5_moveSet 5 none, Cond.methodLink RX5 108 yX5_moves, Cond.instanceMethod yX5_moves, Cond.selects RX5 yX5_moves yX5_moves, Cond.code yX5_moves cX5_moves 4 none, Cond.fieldLink RX5 35 "QueuefloatModel" "amount" "[I", Cond.fieldLink RX5 7 "QueuefloatModel" "account" "[I", Cond.fieldLink RX5 29 "QueuefloatModel" "from" "[I", Cond.fieldLink RX5 32 "QueuefloatModel" "to" "[I"]
def wsX5_canAny_r2 : List Cond := [Cond.fieldLink RX5 23 "QueuefloatModel" "paid" "[I", Cond.methodLink RX5 129 yX5_isSound, Cond.instanceMethod yX5_isSound, Cond.selects RX5 yX5_isSound yX5_isSound, Cond.code yX5_isSound cX5_isSound 3 (some .boolean), Cond.fieldLink RX5 13 "QueuefloatModel" "floor" "[I", Cond.fieldLink RX5 26 "QueuefloatModel" "bound" "[I"]
def wsX5_canAny : List Cond := .code yX5_canAny cX5_canAny 3 (some .boolean) :: ((wsX5_canAny_r1 ++ wsX5_canAny_r2) ++ wsX50)
def wsX5_setPrice : List Cond := .code yX5_setPrice cX5_setPrice 3 none :: ([.fieldLink RX5 69 "QueuefloatModel" "price" "I", .fieldLink RX5 72 "QueuefloatModel" "cut" "I", .methodLink RX5 90 yX5_in, .static yX5_in, .initialized RX5, .code yX5_in cX5_in 3 (some .boolean), .methodLink RX5 86 yX5_asks, .instanceMethod yX5_asks, .selects RX5 yX5_asks yX5_asks, .code yX5_asks cX5_asks 2 (some .boolean), .fieldLink RX5 76 "QueuefloatModel" "thrown" "I"] ++ wsX50)
def wsX5_lend_r1 : List Cond := [Cond.constant RX5 100 (100000), Cond.fieldLink RX5 69 "QueuefloatModel" "price" "I", Cond.fieldLink RX5 72 "QueuefloatModel" "cut" "I", Cond.constantLong RX5 142 (1000), Cond.fieldLink RX5 19 "QueuefloatModel" "isClosed" "[Z", Cond.fieldLink RX5 144 "QueuefloatModel" "loans" "I", Cond.fieldLink RX5 16 "QueuefloatModel" "papers" "[I", Cond.fieldLink RX5 7 "QueuefloatModel" "account" "[I", Cond.fieldLink RX5 13 "QueuefloatModel" "floor" "[I", Cond.fieldLink RX5 51 "QueuefloatModel" "lender" "[I", Cond.fieldLink RX5 54 "QueuefloatModel" "borrower" "[I", Cond.fieldLink RX5 57 "QueuefloatModel" "lent" "[I", Cond.fieldLink RX5 60 "QueuefloatModel" "rate" "[I", Cond.fieldLink RX5 63 "QueuefloatModel" "pledged" "[I", Cond.fieldLink RX5 66 "QueuefloatModel" "isOpen" "[Z", Cond.methodLink RX5 82 yX5_isBank, Cond.static yX5_isBank, Cond.initialized RX5, Cond.code yX5_isBank cX5_isBank 1 (some .boolean), Cond.methodLink RX5 86 yX5_asks, Cond.instanceMethod yX5_asks, Cond.selects RX5 yX5_asks yX5_asks, Cond.code yX5_asks cX5_asks 2 (some .boolean), Cond.fieldLink RX5 76 "QueuefloatModel" "thrown" "I"]
def wsX5_lend_r2 : List Cond := [Cond.methodLink RX5 90 yX5_in, Cond.static yX5_in, Cond.code yX5_in cX5_in 3 (some .boolean), Cond.methodLink RX5 94 yX5_fails, Cond.instanceMethod yX5_fails, Cond.selects RX5 yX5_fails yX5_fails, Cond.code yX5_fails cX5_fails 2 (some .int)]
def wsX5_lend : List Cond := .code yX5_lend cX5_lend 8 (some .int) :: ((wsX5_lend_r1 ++ wsX5_lend_r2) ++ wsX50)
def wsX5_loans : List Cond := .code yX5_loans cX5_loans 3 (some .int) :: ([.fieldLink RX5 76 "QueuefloatModel" "thrown" "I", .fieldLink RX5 144 "QueuefloatModel" "loans" "I", .fieldLink RX5 66 "QueuefloatModel" "isOpen" "[Z"] ++ wsX50)
def wsX5_closes : List Cond := .code yX5_closes cX5_closes 3 none :: ([.fieldLink RX5 19 "QueuefloatModel" "isClosed" "[Z", .fieldLink RX5 79 "QueuefloatModel" "payments" "I", .fieldLink RX5 41 "QueuefloatModel" "isWaiting" "[Z", .fieldLink RX5 29 "QueuefloatModel" "from" "[I", .fieldLink RX5 32 "QueuefloatModel" "to" "[I"] ++ wsX50)
def wsX5_ends : List Cond := .code yX5_ends cX5_ends 7 (some .boolean) :: ([.fieldLink RX5 54 "QueuefloatModel" "borrower" "[I", .fieldLink RX5 57 "QueuefloatModel" "lent" "[I", .fieldLink RX5 60 "QueuefloatModel" "rate" "[I", .fieldLink RX5 66 "QueuefloatModel" "isOpen" "[Z", .fieldLink RX5 19 "QueuefloatModel" "isClosed" "[Z", .fieldLink RX5 7 "QueuefloatModel" "account" "[I", .fieldLink RX5 13 "QueuefloatModel" "floor" "[I", .fieldLink RX5 51 "QueuefloatModel" "lender" "[I", .fieldLink RX5 16 "QueuefloatModel" "papers" "[I", .fieldLink RX5 63 "QueuefloatModel" "pledged" "[I", .fieldLink RX5 69 "QueuefloatModel" "price" "I", .fieldLink RX5 147 "QueuefloatModel" "sold" "I", .methodLink RX5 150 yX5_closes, .instanceMethod yX5_closes, .selects RX5 yX5_closes yX5_closes, .initialized RX5, .code yX5_closes cX5_closes 3 none, .fieldLink RX5 79 "QueuefloatModel" "payments" "I", .fieldLink RX5 41 "QueuefloatModel" "isWaiting" "[Z", .fieldLink RX5 29 "QueuefloatModel" "from" "[I", .fieldLink RX5 32 "QueuefloatModel" "to" "[I"] ++ wsX50)
def wsX5_morning_r1 : List Cond := [Cond.fieldLink RX5 76 "QueuefloatModel" "thrown" "I", Cond.fieldLink RX5 23 "QueuefloatModel" "paid" "[I", Cond.fieldLink RX5 144 "QueuefloatModel" "loans" "I", Cond.fieldLink RX5 66 "QueuefloatModel" "isOpen" "[Z", Cond.methodLink RX5 153 yX5_ends, Cond.instanceMethod yX5_ends, Cond.selects RX5 yX5_ends yX5_ends, Cond.initialized RX5, Cond.code yX5_ends cX5_ends 7 (some .boolean), Cond.fieldLink RX5 54 "QueuefloatModel" "borrower" "[I", Cond.fieldLink RX5 57 "QueuefloatModel" "lent" "[I", Cond.fieldLink RX5 60 "QueuefloatModel" "rate" "[I", Cond.fieldLink RX5 19 "QueuefloatModel" "isClosed" "[Z", Cond.fieldLink RX5 7 "QueuefloatModel" "account" "[I", Cond.fieldLink RX5 13 "QueuefloatModel" "floor" "[I", Cond.fieldLink RX5 51 "QueuefloatModel" "lender" "[I", Cond.fieldLink RX5 16 "QueuefloatModel" "papers" "[I", Cond.fieldLink RX5 63 "QueuefloatModel" "pledged" "[I", Cond.fieldLink RX5 69 "QueuefloatModel" "price" "I", Cond.fieldLink RX5 147 "QueuefloatModel" "sold" "I", Cond.methodLink RX5 150 yX5_closes, Cond.instanceMethod yX5_closes, Cond.selects RX5 yX5_closes yX5_closes, Cond.code yX5_closes cX5_closes 3 none]
def wsX5_morning_r2 : List Cond := [Cond.fieldLink RX5 79 "QueuefloatModel" "payments" "I", Cond.fieldLink RX5 41 "QueuefloatModel" "isWaiting" "[Z", Cond.fieldLink RX5 29 "QueuefloatModel" "from" "[I", Cond.fieldLink RX5 32 "QueuefloatModel" "to" "[I"]
def wsX5_morning : List Cond := .code yX5_morning cX5_morning 3 (some .int) :: ((wsX5_morning_r1 ++ wsX5_morning_r2) ++ wsX50)
def wsX5_sold : List Cond := .code yX5_sold cX5_sold 1 (some .int) :: ([.fieldLink RX5 76 "QueuefloatModel" "thrown" "I", .fieldLink RX5 147 "QueuefloatModel" "sold" "I"] ++ wsX50)
def wsJ9_max_7cf53 : List Cond := .code yJ9_max_7cf53 cJ9_max_7cf53 2 (some .int) :: ([])
def wsJ9_min_7cf53 : List Cond := .code yJ9_min_7cf53 cJ9_min_7cf53 2 (some .int) :: ([])
def wsL_fund_r1 : List Cond := [Cond.classLink RL 13 "java/lang/IndexOutOfBoundsException", Cond.classLink RL 15 "java/lang/IllegalArgumentException", Cond.classLink RL 17 "java/lang/IllegalStateException", Cond.methodLink RL 7 yX4_fund, Cond.instanceMethod yX4_fund, Cond.selects RX4 yX4_fund yX4_fund, Cond.initialized RX4, Cond.code yX4_fund cX4_fund 3 (some .int), Cond.classLink RX4 77 "java/lang/IllegalStateException", Cond.initialized "java/lang/IllegalStateException", Cond.constant RX4 65 (1000000), Cond.fieldLink RX4 10 "Queuefloat" "sums" "LQueuefloat$Sums;", Cond.fieldLink RX4 73 "Queuefloat$Sums" "accountOf" "[I", Cond.constant RX4 76 (100000000), Cond.methodLink RX4 61 yX4_requireBank, Cond.static yX4_requireBank, Cond.code yX4_requireBank cX4_requireBank 1 none, Cond.classLink RX4 140 "java/lang/IndexOutOfBoundsException", Cond.initialized "java/lang/IndexOutOfBoundsException", Cond.methodLink RX4 66 yX4_requireRange, Cond.static yX4_requireRange, Cond.code yX4_requireRange cX4_requireRange 3 none, Cond.classLink RX4 197 "java/lang/IllegalArgumentException", Cond.initialized "java/lang/IllegalArgumentException"]
def wsL_fund_r2 : List Cond := [Cond.methodLink RX4 70 yX4_requireOpen, Cond.instanceMethod yX4_requireOpen, Cond.selects RX4 yX4_requireOpen yX4_requireOpen, Cond.code yX4_requireOpen cX4_requireOpen 2 none, Cond.fieldLink RX4 40 "Queuefloat" "closed" "[Z"]
def wsL_fund : List Cond := .codeWith yL_fund cL_fund 5 (some .int) [(0, 10, 13, 13), (0, 10, 17, 15), (0, 10, 21, 17)] :: ((wsL_fund_r1 ++ wsL_fund_r2) ++ wsX40 ++ wsX30 ++ (vx_atS RX4 81 "java/lang/IllegalStateException" ["java/lang/RuntimeException", "java/lang/Exception"]).filter goodWord ++ (vx_atS RX4 144 "java/lang/IndexOutOfBoundsException" ["java/lang/RuntimeException", "java/lang/Exception"]).filter goodWord ++ (vx_atS RX4 201 "java/lang/IllegalArgumentException" ["java/lang/RuntimeException", "java/lang/Exception"]).filter goodWord)
def wsL_setFloor_r1 : List Cond := [Cond.classLink RL 13 "java/lang/IndexOutOfBoundsException", Cond.classLink RL 15 "java/lang/IllegalArgumentException", Cond.methodLink RL 19 yX4_setFloor, Cond.instanceMethod yX4_setFloor, Cond.selects RX4 yX4_setFloor yX4_setFloor, Cond.initialized RX4, Cond.code yX4_setFloor cX4_setFloor 4 (some .int), Cond.constant RX4 84 (-1000000), Cond.fieldLink RX4 10 "Queuefloat" "sums" "LQueuefloat$Sums;", Cond.fieldLink RX4 73 "Queuefloat$Sums" "accountOf" "[I", Cond.methodLink RX4 85 Lib.Math.min.name, Cond.static Lib.Math.min.name, Cond.initialized "java/lang/Math", Cond.code Lib.Math.min.name Lib.Math.min.code 2 (some .int), Cond.fieldLink RX4 22 "Queuefloat" "limits" "LQueuefloat$Limits;", Cond.fieldLink RX4 91 "Queuefloat$Limits" "floorOf" "[I", Cond.methodLink RX4 61 yX4_requireBank, Cond.static yX4_requireBank, Cond.code yX4_requireBank cX4_requireBank 1 none, Cond.classLink RX4 140 "java/lang/IndexOutOfBoundsException", Cond.initialized "java/lang/IndexOutOfBoundsException", Cond.methodLink RX4 66 yX4_requireRange, Cond.static yX4_requireRange, Cond.code yX4_requireRange cX4_requireRange 3 none]
def wsL_setFloor_r2 : List Cond := [Cond.classLink RX4 197 "java/lang/IllegalArgumentException", Cond.initialized "java/lang/IllegalArgumentException"]
def wsL_setFloor : List Cond := .codeWith yL_setFloor cL_setFloor 5 (some .int) [(0, 10, 13, 13), (0, 10, 17, 15)] :: ((wsL_setFloor_r1 ++ wsL_setFloor_r2) ++ wsX40 ++ wsX30 ++ wsX00 ++ (vx_atS RX4 144 "java/lang/IndexOutOfBoundsException" ["java/lang/RuntimeException", "java/lang/Exception"]).filter goodWord ++ (vx_atS RX4 201 "java/lang/IllegalArgumentException" ["java/lang/RuntimeException", "java/lang/Exception"]).filter goodWord)
def wsL_setBound_r1 : List Cond := [Cond.classLink RL 13 "java/lang/IndexOutOfBoundsException", Cond.classLink RL 15 "java/lang/IllegalArgumentException", Cond.methodLink RL 22 yX4_setBound, Cond.instanceMethod yX4_setBound, Cond.selects RX4 yX4_setBound yX4_setBound, Cond.initialized RX4, Cond.code yX4_setBound cX4_setBound 6 (some .int), Cond.fieldLink RX4 10 "Queuefloat" "sums" "LQueuefloat$Sums;", Cond.fieldLink RX4 101 "Queuefloat$Sums" "netPaid" "[I", Cond.methodLink RX4 104 Lib.Math.max.name, Cond.static Lib.Math.max.name, Cond.initialized "java/lang/Math", Cond.code Lib.Math.max.name Lib.Math.max.code 2 (some .int), Cond.constant RX4 65 (1000000), Cond.fieldLink RX4 22 "Queuefloat" "limits" "LQueuefloat$Limits;", Cond.fieldLink RX4 107 "Queuefloat$Limits" "boundOf" "[I", Cond.methodLink RX4 61 yX4_requireBank, Cond.static yX4_requireBank, Cond.code yX4_requireBank cX4_requireBank 1 none, Cond.classLink RX4 140 "java/lang/IndexOutOfBoundsException", Cond.initialized "java/lang/IndexOutOfBoundsException", Cond.methodLink RX4 94 yX4_requireTwo, Cond.static yX4_requireTwo, Cond.code yX4_requireTwo cX4_requireTwo 2 none]
def wsL_setBound_r2 : List Cond := [Cond.classLink RX4 197 "java/lang/IllegalArgumentException", Cond.initialized "java/lang/IllegalArgumentException", Cond.methodLink RX4 98 yX4_pairOf, Cond.static yX4_pairOf, Cond.code yX4_pairOf cX4_pairOf 2 (some .int), Cond.methodLink RX4 66 yX4_requireRange, Cond.static yX4_requireRange, Cond.code yX4_requireRange cX4_requireRange 3 none]
def wsL_setBound : List Cond := .codeWith yL_setBound cL_setBound 6 (some .int) [(0, 12, 15, 13), (0, 12, 19, 15)] :: ((wsL_setBound_r1 ++ wsL_setBound_r2) ++ wsX40 ++ wsX30 ++ wsX00 ++ (vx_atS RX4 144 "java/lang/IndexOutOfBoundsException" ["java/lang/RuntimeException", "java/lang/Exception"]).filter goodWord ++ (vx_atS RX4 201 "java/lang/IllegalArgumentException" ["java/lang/RuntimeException", "java/lang/Exception"]).filter goodWord)
def wsL_givePapers_r1 : List Cond := [Cond.classLink RL 13 "java/lang/IndexOutOfBoundsException", Cond.classLink RL 15 "java/lang/IllegalArgumentException", Cond.classLink RL 17 "java/lang/IllegalStateException", Cond.methodLink RL 26 yX4_givePapers, Cond.instanceMethod yX4_givePapers, Cond.selects RX4 yX4_givePapers yX4_givePapers, Cond.initialized RX4, Cond.code yX4_givePapers cX4_givePapers 3 (some .int), Cond.classLink RX4 77 "java/lang/IllegalStateException", Cond.initialized "java/lang/IllegalStateException", Cond.fieldLink RX4 44 "Queuefloat" "papersOf" "[I", Cond.constant RX4 110 (100000), Cond.methodLink RX4 61 yX4_requireBank, Cond.static yX4_requireBank, Cond.code yX4_requireBank cX4_requireBank 1 none, Cond.classLink RX4 140 "java/lang/IndexOutOfBoundsException", Cond.initialized "java/lang/IndexOutOfBoundsException", Cond.methodLink RX4 66 yX4_requireRange, Cond.static yX4_requireRange, Cond.code yX4_requireRange cX4_requireRange 3 none, Cond.classLink RX4 197 "java/lang/IllegalArgumentException", Cond.initialized "java/lang/IllegalArgumentException", Cond.methodLink RX4 70 yX4_requireOpen, Cond.instanceMethod yX4_requireOpen]
def wsL_givePapers_r2 : List Cond := [Cond.selects RX4 yX4_requireOpen yX4_requireOpen, Cond.code yX4_requireOpen cX4_requireOpen 2 none, Cond.fieldLink RX4 40 "Queuefloat" "closed" "[Z"]
def wsL_givePapers : List Cond := .codeWith yL_givePapers cL_givePapers 5 (some .int) [(0, 10, 13, 13), (0, 10, 17, 15), (0, 10, 21, 17)] :: ((wsL_givePapers_r1 ++ wsL_givePapers_r2) ++ wsX40 ++ (vx_atS RX4 81 "java/lang/IllegalStateException" ["java/lang/RuntimeException", "java/lang/Exception"]).filter goodWord ++ (vx_atS RX4 144 "java/lang/IndexOutOfBoundsException" ["java/lang/RuntimeException", "java/lang/Exception"]).filter goodWord ++ (vx_atS RX4 201 "java/lang/IllegalArgumentException" ["java/lang/RuntimeException", "java/lang/Exception"]).filter goodWord)
def wsL_account : List Cond := .codeWith yL_account cL_account 4 (some .int) [(0, 9, 12, 13)] :: ([.classLink RL 13 "java/lang/IndexOutOfBoundsException", .methodLink RL 29 yX4_account, .instanceMethod yX4_account, .selects RX4 yX4_account yX4_account, .initialized RX4, .code yX4_account cX4_account 2 (some .int), .fieldLink RX4 10 "Queuefloat" "sums" "LQueuefloat$Sums;", .fieldLink RX4 73 "Queuefloat$Sums" "accountOf" "[I", .methodLink RX4 61 yX4_requireBank, .static yX4_requireBank, .code yX4_requireBank cX4_requireBank 1 none, .classLink RX4 140 "java/lang/IndexOutOfBoundsException", .initialized "java/lang/IndexOutOfBoundsException"] ++ wsX40 ++ wsX30 ++ (vx_atS RX4 144 "java/lang/IndexOutOfBoundsException" ["java/lang/RuntimeException", "java/lang/Exception"]).filter goodWord)
def wsL_papers : List Cond := .codeWith yL_papers cL_papers 4 (some .int) [(0, 9, 12, 13)] :: ([.classLink RL 13 "java/lang/IndexOutOfBoundsException", .methodLink RL 33 yX4_papers, .instanceMethod yX4_papers, .selects RX4 yX4_papers yX4_papers, .initialized RX4, .code yX4_papers cX4_papers 2 (some .int), .fieldLink RX4 44 "Queuefloat" "papersOf" "[I", .methodLink RX4 61 yX4_requireBank, .static yX4_requireBank, .code yX4_requireBank cX4_requireBank 1 none, .classLink RX4 140 "java/lang/IndexOutOfBoundsException", .initialized "java/lang/IndexOutOfBoundsException"] ++ wsX40 ++ (vx_atS RX4 144 "java/lang/IndexOutOfBoundsException" ["java/lang/RuntimeException", "java/lang/Exception"]).filter goodWord)
def wsL_isOpen : List Cond := .codeWith yL_isOpen cL_isOpen 4 (some .int) [(0, 16, 19, 13)] :: ([.classLink RL 13 "java/lang/IndexOutOfBoundsException", .methodLink RL 36 yX4_isOpen, .instanceMethod yX4_isOpen, .selects RX4 yX4_isOpen yX4_isOpen, .initialized RX4, .code yX4_isOpen cX4_isOpen 2 (some .boolean), .fieldLink RX4 40 "Queuefloat" "closed" "[Z", .methodLink RX4 61 yX4_requireBank, .static yX4_requireBank, .code yX4_requireBank cX4_requireBank 1 none, .classLink RX4 140 "java/lang/IndexOutOfBoundsException", .initialized "java/lang/IndexOutOfBoundsException"] ++ wsX40 ++ (vx_atS RX4 144 "java/lang/IndexOutOfBoundsException" ["java/lang/RuntimeException", "java/lang/Exception"]).filter goodWord)
def wsL_paid : List Cond := .codeWith yL_paid cL_paid 5 (some .int) [(0, 10, 13, 13)] :: ([.classLink RL 13 "java/lang/IndexOutOfBoundsException", .methodLink RL 40 yX4_paid, .instanceMethod yX4_paid, .selects RX4 yX4_paid yX4_paid, .initialized RX4, .code yX4_paid cX4_paid 3 (some .int), .fieldLink RX4 10 "Queuefloat" "sums" "LQueuefloat$Sums;", .fieldLink RX4 101 "Queuefloat$Sums" "netPaid" "[I", .methodLink RX4 61 yX4_requireBank, .static yX4_requireBank, .code yX4_requireBank cX4_requireBank 1 none, .classLink RX4 140 "java/lang/IndexOutOfBoundsException", .initialized "java/lang/IndexOutOfBoundsException", .methodLink RX4 98 yX4_pairOf, .static yX4_pairOf, .code yX4_pairOf cX4_pairOf 2 (some .int)] ++ wsX40 ++ wsX30 ++ (vx_atS RX4 144 "java/lang/IndexOutOfBoundsException" ["java/lang/RuntimeException", "java/lang/Exception"]).filter goodWord)
def wsL_pay_r1 : List Cond := [Cond.classLink RL 13 "java/lang/IndexOutOfBoundsException", Cond.classLink RL 15 "java/lang/IllegalArgumentException", Cond.classLink RL 17 "java/lang/IllegalStateException", Cond.methodLink RL 43 yX4_pay, Cond.instanceMethod yX4_pay, Cond.selects RX4 yX4_pay yX4_pay, Cond.initialized RX4, Cond.code yX4_pay cX4_pay 5 (some .int), Cond.classLink RX4 77 "java/lang/IllegalStateException", Cond.initialized "java/lang/IllegalStateException", Cond.constant RX4 110 (100000), Cond.fieldLink RX4 29 "Queuefloat" "payments" "LQueuefloat$Payments;", Cond.fieldLink RX4 113 "Queuefloat$Payments" "made" "I", Cond.methodLink RX4 61 yX4_requireBank, Cond.static yX4_requireBank, Cond.code yX4_requireBank cX4_requireBank 1 none, Cond.classLink RX4 140 "java/lang/IndexOutOfBoundsException", Cond.initialized "java/lang/IndexOutOfBoundsException", Cond.methodLink RX4 94 yX4_requireTwo, Cond.static yX4_requireTwo, Cond.code yX4_requireTwo cX4_requireTwo 2 none, Cond.classLink RX4 197 "java/lang/IllegalArgumentException", Cond.initialized "java/lang/IllegalArgumentException", Cond.methodLink RX4 66 yX4_requireRange]
def wsL_pay_r2 : List Cond := [Cond.static yX4_requireRange, Cond.code yX4_requireRange cX4_requireRange 3 none, Cond.methodLink RX4 70 yX4_requireOpen, Cond.instanceMethod yX4_requireOpen, Cond.selects RX4 yX4_requireOpen yX4_requireOpen, Cond.code yX4_requireOpen cX4_requireOpen 2 none, Cond.fieldLink RX4 40 "Queuefloat" "closed" "[Z", Cond.methodLink RX4 118 yX2_enter, Cond.instanceMethod yX2_enter, Cond.selects RX2 yX2_enter yX2_enter, Cond.initialized RX2, Cond.code yX2_enter cX2_enter 7 (some .int), Cond.fieldLink RX2 31 "Queuefloat$Payments" "made" "I", Cond.fieldLink RX2 9 "Queuefloat$Payments" "from" "[I", Cond.fieldLink RX2 15 "Queuefloat$Payments" "to" "[I", Cond.fieldLink RX2 18 "Queuefloat$Payments" "amount" "[I", Cond.fieldLink RX2 21 "Queuefloat$Payments" "priorityOf" "[I", Cond.fieldLink RX2 24 "Queuefloat$Payments" "waits" "[Z", Cond.fieldLink RX2 28 "Queuefloat$Payments" "byPriority" "[I"]
def wsL_pay : List Cond := .codeWith yL_pay cL_pay 7 (some .int) [(0, 14, 17, 13), (0, 14, 21, 15), (0, 14, 25, 17)] :: ((wsL_pay_r1 ++ wsL_pay_r2) ++ wsX40 ++ wsX20 ++ (vx_atS RX4 81 "java/lang/IllegalStateException" ["java/lang/RuntimeException", "java/lang/Exception"]).filter goodWord ++ (vx_atS RX4 144 "java/lang/IndexOutOfBoundsException" ["java/lang/RuntimeException", "java/lang/Exception"]).filter goodWord ++ (vx_atS RX4 201 "java/lang/IllegalArgumentException" ["java/lang/RuntimeException", "java/lang/Exception"]).filter goodWord)
def wsL_drop_r1 : List Cond := [Cond.classLink RL 13 "java/lang/IndexOutOfBoundsException", Cond.classLink RL 17 "java/lang/IllegalStateException", Cond.methodLink RL 47 yX4_drop, Cond.instanceMethod yX4_drop, Cond.selects RX4 yX4_drop yX4_drop, Cond.initialized RX4, Cond.code yX4_drop cX4_drop 2 (some .int), Cond.classLink RX4 77 "java/lang/IllegalStateException", Cond.initialized "java/lang/IllegalStateException", Cond.fieldLink RX4 29 "Queuefloat" "payments" "LQueuefloat$Payments;", Cond.fieldLink RX4 125 "Queuefloat$Payments" "waits" "[Z", Cond.methodLink RX4 122 yX4_requirePayment, Cond.instanceMethod yX4_requirePayment, Cond.selects RX4 yX4_requirePayment yX4_requirePayment, Cond.code yX4_requirePayment cX4_requirePayment 2 none, Cond.classLink RX4 140 "java/lang/IndexOutOfBoundsException", Cond.initialized "java/lang/IndexOutOfBoundsException", Cond.fieldLink RX4 113 "Queuefloat$Payments" "made" "I", Cond.methodLink RX4 130 yX2_countWaiting, Cond.instanceMethod yX2_countWaiting, Cond.selects RX2 yX2_countWaiting yX2_countWaiting, Cond.initialized RX2, Cond.code yX2_countWaiting cX2_countWaiting 3 (some .int), Cond.fieldLink RX2 31 "Queuefloat$Payments" "made" "I"]
def wsL_drop_r2 : List Cond := [Cond.fieldLink RX2 24 "Queuefloat$Payments" "waits" "[Z"]
def wsL_drop : List Cond := .codeWith yL_drop cL_drop 4 (some .int) [(0, 9, 12, 13), (0, 9, 15, 17)] :: ((wsL_drop_r1 ++ wsL_drop_r2) ++ wsX40 ++ wsX20 ++ (vx_atS RX4 81 "java/lang/IllegalStateException" ["java/lang/RuntimeException", "java/lang/Exception"]).filter goodWord ++ (vx_atS RX4 144 "java/lang/IndexOutOfBoundsException" ["java/lang/RuntimeException", "java/lang/Exception"]).filter goodWord)
def wsL_setSmall : List Cond := .codeWith yL_setSmall cL_setSmall 4 (some .int) [(0, 9, 12, 15)] :: ([.classLink RL 15 "java/lang/IllegalArgumentException", .methodLink RL 50 yX4_setSmall, .instanceMethod yX4_setSmall, .selects RX4 yX4_setSmall yX4_setSmall, .initialized RX4, .code yX4_setSmall cX4_setSmall 3 (some .int), .constant RX4 110 (100000), .fieldLink RX4 51 "Queuefloat" "small" "I", .methodLink RX4 66 yX4_requireRange, .static yX4_requireRange, .code yX4_requireRange cX4_requireRange 3 none, .classLink RX4 197 "java/lang/IllegalArgumentException", .initialized "java/lang/IllegalArgumentException"] ++ wsX40 ++ (vx_atS RX4 201 "java/lang/IllegalArgumentException" ["java/lang/RuntimeException", "java/lang/Exception"]).filter goodWord)
def wsL_queued_r1 : List Cond := [Cond.classLink RL 13 "java/lang/IndexOutOfBoundsException", Cond.methodLink RL 53 yX4_queued, Cond.instanceMethod yX4_queued, Cond.selects RX4 yX4_queued yX4_queued, Cond.initialized RX4, Cond.code yX4_queued cX4_queued 3 (some .int), Cond.classLink RX4 140 "java/lang/IndexOutOfBoundsException", Cond.initialized "java/lang/IndexOutOfBoundsException", Cond.fieldLink RX4 29 "Queuefloat" "payments" "LQueuefloat$Payments;", Cond.methodLink RX4 61 yX4_requireBank, Cond.static yX4_requireBank, Cond.code yX4_requireBank cX4_requireBank 1 none, Cond.methodLink RX4 145 yX2_inQueue, Cond.instanceMethod yX2_inQueue, Cond.selects RX2 yX2_inQueue yX2_inQueue, Cond.initialized RX2, Cond.code yX2_inQueue cX2_inQueue 5 (some .int), Cond.fieldLink RX2 31 "Queuefloat$Payments" "made" "I", Cond.fieldLink RX2 28 "Queuefloat$Payments" "byPriority" "[I", Cond.methodLink RX2 44 yX2_waitsAt, Cond.instanceMethod yX2_waitsAt, Cond.selects RX2 yX2_waitsAt yX2_waitsAt, Cond.code yX2_waitsAt cX2_waitsAt 3 (some .boolean), Cond.fieldLink RX2 24 "Queuefloat$Payments" "waits" "[Z"]
def wsL_queued_r2 : List Cond := [Cond.fieldLink RX2 9 "Queuefloat$Payments" "from" "[I"]
def wsL_queued : List Cond := .codeWith yL_queued cL_queued 5 (some .int) [(0, 10, 13, 13)] :: ((wsL_queued_r1 ++ wsL_queued_r2) ++ wsX40 ++ wsX20 ++ (vx_atS RX4 144 "java/lang/IndexOutOfBoundsException" ["java/lang/RuntimeException", "java/lang/Exception"]).filter goodWord)
def wsL_why_r1 : List Cond := [Cond.classLink RL 13 "java/lang/IndexOutOfBoundsException", Cond.methodLink RL 56 yX4_why, Cond.instanceMethod yX4_why, Cond.selects RX4 yX4_why yX4_why, Cond.initialized RX4, Cond.code yX4_why cX4_why 2 (some .int), Cond.methodLink RX4 122 yX4_requirePayment, Cond.instanceMethod yX4_requirePayment, Cond.selects RX4 yX4_requirePayment yX4_requirePayment, Cond.code yX4_requirePayment cX4_requirePayment 2 none, Cond.classLink RX4 140 "java/lang/IndexOutOfBoundsException", Cond.initialized "java/lang/IndexOutOfBoundsException", Cond.fieldLink RX4 29 "Queuefloat" "payments" "LQueuefloat$Payments;", Cond.fieldLink RX4 113 "Queuefloat$Payments" "made" "I", Cond.methodLink RX4 148 yX4_obstacle, Cond.instanceMethod yX4_obstacle, Cond.selects RX4 yX4_obstacle yX4_obstacle, Cond.code yX4_obstacle cX4_obstacle 5 (some .int), Cond.fieldLink RX4 125 "Queuefloat$Payments" "waits" "[Z", Cond.fieldLink RX4 217 "Queuefloat$Payments" "from" "[I", Cond.fieldLink RX4 220 "Queuefloat$Payments" "amount" "[I", Cond.fieldLink RX4 10 "Queuefloat" "sums" "LQueuefloat$Sums;", Cond.fieldLink RX4 73 "Queuefloat$Sums" "accountOf" "[I", Cond.fieldLink RX4 22 "Queuefloat" "limits" "LQueuefloat$Limits;"]
def wsL_why_r2 : List Cond := [Cond.fieldLink RX4 91 "Queuefloat$Limits" "floorOf" "[I", Cond.fieldLink RX4 223 "Queuefloat$Payments" "to" "[I", Cond.fieldLink RX4 101 "Queuefloat$Sums" "netPaid" "[I", Cond.fieldLink RX4 107 "Queuefloat$Limits" "boundOf" "[I", Cond.methodLink RX4 98 yX4_pairOf, Cond.static yX4_pairOf, Cond.code yX4_pairOf cX4_pairOf 2 (some .int)]
def wsL_why : List Cond := .codeWith yL_why cL_why 4 (some .int) [(0, 9, 12, 13)] :: ((wsL_why_r1 ++ wsL_why_r2) ++ wsX40 ++ wsX20 ++ wsX30 ++ wsX00 ++ (vx_atS RX4 144 "java/lang/IndexOutOfBoundsException" ["java/lang/RuntimeException", "java/lang/Exception"]).filter goodWord)
def wsL_canAny_r1 : List Cond := [Cond.classLink RL 17 "java/lang/IllegalStateException", Cond.methodLink RL 59 yX4_canAny, Cond.instanceMethod yX4_canAny, Cond.selects RX4 yX4_canAny yX4_canAny, Cond.initialized RX4, Cond.code yX4_canAny cX4_canAny 3 (some .boolean), Cond.classLink RX4 77 "java/lang/IllegalStateException", Cond.initialized "java/lang/IllegalStateException", Cond.fieldLink RX4 29 "Queuefloat" "payments" "LQueuefloat$Payments;", Cond.methodLink RX4 130 yX2_countWaiting, Cond.instanceMethod yX2_countWaiting, Cond.selects RX2 yX2_countWaiting yX2_countWaiting, Cond.initialized RX2, Cond.code yX2_countWaiting cX2_countWaiting 3 (some .int), Cond.fieldLink RX2 31 "Queuefloat$Payments" "made" "I", Cond.fieldLink RX2 24 "Queuefloat$Payments" "waits" "[Z", Cond.methodLink RX4 154 yX4_listWaiting, Cond.instanceMethod yX4_listWaiting, Cond.selects RX4 yX4_listWaiting yX4_listWaiting, Cond.code yX4_listWaiting cX4_listWaiting 3 (some .int), Cond.fieldLink RX4 113 "Queuefloat$Payments" "made" "I", Cond.fieldLink RX4 125 "Queuefloat$Payments" "waits" "[Z", Cond.fieldLink RX4 48 "Queuefloat" "candidates" "[I", Cond.methodLink RX4 157 yX4_canGoTogether]
def wsL_canAny_r2 : List Cond := [Cond.instanceMethod yX4_canGoTogether, Cond.selects RX4 yX4_canGoTogether yX4_canGoTogether, Cond.code yX4_canGoTogether cX4_canGoTogether 4 (some .boolean), Cond.fieldLink RX4 16 "Queuefloat" "trial" "LQueuefloat$Sums;", Cond.fieldLink RX4 10 "Queuefloat" "sums" "LQueuefloat$Sums;", Cond.fieldLink RX4 22 "Queuefloat" "limits" "LQueuefloat$Limits;", Cond.methodLink RX4 253 yX3_copy, Cond.instanceMethod yX3_copy, Cond.selects RX3 yX3_copy yX3_copy, Cond.initialized RX3, Cond.code yX3_copy cX3_copy 2 none, Cond.fieldLink RX3 9 "Queuefloat$Sums" "accountOf" "[I", Cond.methodLink RX3 22 arraycopyName, Cond.native arraycopyName, Cond.static arraycopyName, Cond.initialized "java/lang/System", Cond.fieldLink RX3 15 "Queuefloat$Sums" "netPaid" "[I", Cond.methodLink RX4 250 yX4_isIn, Cond.static yX4_isIn, Cond.code yX4_isIn cX4_isIn 2 (some .boolean), Cond.methodLink RX4 226 yX2_apply, Cond.instanceMethod yX2_apply, Cond.selects RX2 yX2_apply yX2_apply, Cond.code yX2_apply cX2_apply 3 none]
def wsL_canAny_r3 : List Cond := [Cond.fieldLink RX2 9 "Queuefloat$Payments" "from" "[I", Cond.fieldLink RX2 15 "Queuefloat$Payments" "to" "[I", Cond.fieldLink RX2 18 "Queuefloat$Payments" "amount" "[I", Cond.methodLink RX2 35 yX3_move, Cond.instanceMethod yX3_move, Cond.selects RX3 yX3_move yX3_move, Cond.code yX3_move cX3_move 4 none, Cond.methodLink RX2 41 yX3_notePaid, Cond.instanceMethod yX3_notePaid, Cond.selects RX3 yX3_notePaid yX3_notePaid, Cond.code yX3_notePaid cX3_notePaid 4 none, Cond.static yX4_pairOf, Cond.code yX4_pairOf cX4_pairOf 2 (some .int), Cond.methodLink RX4 257 yX0_allow, Cond.instanceMethod yX0_allow, Cond.selects RX0 yX0_allow yX0_allow, Cond.initialized RX0, Cond.code yX0_allow cX0_allow 3 (some .boolean), Cond.fieldLink RX0 19 "Queuefloat$Sums" "accountOf" "[I", Cond.fieldLink RX0 9 "Queuefloat$Limits" "floorOf" "[I", Cond.fieldLink RX0 24 "Queuefloat$Sums" "netPaid" "[I", Cond.fieldLink RX0 15 "Queuefloat$Limits" "boundOf" "[I"]
def wsL_canAny : List Cond := .codeWith yL_canAny cL_canAny 3 (some .int) [(0, 15, 18, 17)] :: ((wsL_canAny_r1 ++ (wsL_canAny_r2 ++ wsL_canAny_r3)) ++ wsX40 ++ wsX20 ++ wsX30 ++ wsX00 ++ (vx_atS RX4 81 "java/lang/IllegalStateException" ["java/lang/RuntimeException", "java/lang/Exception"]).filter goodWord)
def wsL_setPrice : List Cond := .codeWith yL_setPrice cL_setPrice 4 (some .int) [(0, 6, 9, 15)] :: ([.classLink RL 15 "java/lang/IllegalArgumentException", .methodLink RL 63 yX4_setPrice, .instanceMethod yX4_setPrice, .selects RX4 yX4_setPrice yX4_setPrice, .initialized RX4, .code yX4_setPrice cX4_setPrice 3 none, .fieldLink RX4 55 "Queuefloat" "paperPrice" "I", .fieldLink RX4 58 "Queuefloat" "paperCut" "I", .methodLink RX4 66 yX4_requireRange, .static yX4_requireRange, .code yX4_requireRange cX4_requireRange 3 none, .classLink RX4 197 "java/lang/IllegalArgumentException", .initialized "java/lang/IllegalArgumentException"] ++ wsX40 ++ (vx_atS RX4 201 "java/lang/IllegalArgumentException" ["java/lang/RuntimeException", "java/lang/Exception"]).filter goodWord)
def wsL_lend_r1 : List Cond := [Cond.classLink RL 13 "java/lang/IndexOutOfBoundsException", Cond.classLink RL 15 "java/lang/IllegalArgumentException", Cond.classLink RL 17 "java/lang/IllegalStateException", Cond.methodLink RL 67 yX4_lend, Cond.instanceMethod yX4_lend, Cond.selects RX4 yX4_lend yX4_lend, Cond.initialized RX4, Cond.code yX4_lend cX4_lend 6 (some .int), Cond.constant RX4 110 (100000), Cond.fieldLink RX4 10 "Queuefloat" "sums" "LQueuefloat$Sums;", Cond.fieldLink RX4 44 "Queuefloat" "papersOf" "[I", Cond.fieldLink RX4 36 "Queuefloat" "market" "LQueuefloat$Loans;", Cond.methodLink RX4 61 yX4_requireBank, Cond.static yX4_requireBank, Cond.code yX4_requireBank cX4_requireBank 1 none, Cond.classLink RX4 140 "java/lang/IndexOutOfBoundsException", Cond.initialized "java/lang/IndexOutOfBoundsException", Cond.methodLink RX4 94 yX4_requireTwo, Cond.static yX4_requireTwo, Cond.code yX4_requireTwo cX4_requireTwo 2 none, Cond.classLink RX4 197 "java/lang/IllegalArgumentException", Cond.initialized "java/lang/IllegalArgumentException", Cond.methodLink RX4 66 yX4_requireRange, Cond.static yX4_requireRange]
def wsL_lend_r2 : List Cond := [Cond.code yX4_requireRange cX4_requireRange 3 none, Cond.methodLink RX4 70 yX4_requireOpen, Cond.instanceMethod yX4_requireOpen, Cond.selects RX4 yX4_requireOpen yX4_requireOpen, Cond.code yX4_requireOpen cX4_requireOpen 2 none, Cond.classLink RX4 77 "java/lang/IllegalStateException", Cond.initialized "java/lang/IllegalStateException", Cond.fieldLink RX4 40 "Queuefloat" "closed" "[Z", Cond.methodLink RX4 161 yX4_requireLoanable, Cond.instanceMethod yX4_requireLoanable, Cond.selects RX4 yX4_requireLoanable yX4_requireLoanable, Cond.code yX4_requireLoanable cX4_requireLoanable 5 none, Cond.fieldLink RX4 169 "Queuefloat$Loans" "made" "I", Cond.fieldLink RX4 73 "Queuefloat$Sums" "accountOf" "[I", Cond.fieldLink RX4 22 "Queuefloat" "limits" "LQueuefloat$Limits;", Cond.fieldLink RX4 91 "Queuefloat$Limits" "floorOf" "[I", Cond.methodLink RX4 210 yX4_pledgeWorth, Cond.instanceMethod yX4_pledgeWorth, Cond.selects RX4 yX4_pledgeWorth yX4_pledgeWorth, Cond.code yX4_pledgeWorth cX4_pledgeWorth 2 (some .int), Cond.fieldLink RX4 55 "Queuefloat" "paperPrice" "I", Cond.fieldLink RX4 58 "Queuefloat" "paperCut" "I", Cond.methodLink RX4 165 yX3_move, Cond.instanceMethod yX3_move]
def wsL_lend_r3 : List Cond := [Cond.selects RX3 yX3_move yX3_move, Cond.initialized RX3, Cond.code yX3_move cX3_move 4 none, Cond.fieldLink RX3 9 "Queuefloat$Sums" "accountOf" "[I", Cond.methodLink RX4 168 yX1_enter, Cond.instanceMethod yX1_enter, Cond.selects RX1 yX1_enter yX1_enter, Cond.initialized RX1, Cond.code yX1_enter cX1_enter 6 (some .int), Cond.fieldLink RX1 24 "Queuefloat$Loans" "made" "I", Cond.fieldLink RX1 9 "Queuefloat$Loans" "lender" "[I", Cond.fieldLink RX1 15 "Queuefloat$Loans" "borrower" "[I", Cond.fieldLink RX1 18 "Queuefloat$Loans" "due" "[I", Cond.fieldLink RX1 21 "Queuefloat$Loans" "pledge" "[I"]
def wsL_lend : List Cond := .codeWith yL_lend cL_lend 8 (some .int) [(0, 16, 19, 13), (0, 16, 23, 15), (0, 16, 27, 17)] :: ((wsL_lend_r1 ++ (wsL_lend_r2 ++ wsL_lend_r3)) ++ wsX40 ++ wsX10 ++ wsX30 ++ wsX00 ++ (vx_atS RX4 144 "java/lang/IndexOutOfBoundsException" ["java/lang/RuntimeException", "java/lang/Exception"]).filter goodWord ++ (vx_atS RX4 201 "java/lang/IllegalArgumentException" ["java/lang/RuntimeException", "java/lang/Exception"]).filter goodWord ++ (vx_atS RX4 81 "java/lang/IllegalStateException" ["java/lang/RuntimeException", "java/lang/Exception"]).filter goodWord)
def wsL_law0_r1 : List Cond := [Cond.classLink RL 8 RX4, Cond.instantiable RX4 12, Cond.initialized RX4, Cond.classLink RL 72 RX5, Cond.instantiable RX5 25, Cond.initialized RX5, Cond.arrayClass .long, Cond.methodLink RL 71 yX4_init, Cond.instanceMethod yX4_init, Cond.code yX4_init cX4_init 1 none, Cond.methodLink RX4 1 objectInit, Cond.instanceMethod objectInit, Cond.code objectInit ⟨#[0xb1]⟩ 1 none, Cond.classLink RX4 7 RX3, Cond.instantiable RX3 2, Cond.initialized RX3, Cond.fieldLink RX4 10 "Queuefloat" "sums" "LQueuefloat$Sums;", Cond.fieldLink RX4 16 "Queuefloat" "trial" "LQueuefloat$Sums;", Cond.classLink RX4 19 RX0, Cond.instantiable RX0 2, Cond.initialized RX0, Cond.fieldLink RX4 22 "Queuefloat" "limits" "LQueuefloat$Limits;", Cond.classLink RX4 26 RX2, Cond.instantiable RX2 7]
def wsL_law0_r2 : List Cond := [Cond.initialized RX2, Cond.fieldLink RX4 29 "Queuefloat" "payments" "LQueuefloat$Payments;", Cond.classLink RX4 33 RX1, Cond.instantiable RX1 6, Cond.initialized RX1, Cond.fieldLink RX4 36 "Queuefloat" "market" "LQueuefloat$Loans;", Cond.arrayClass .boolean, Cond.fieldLink RX4 40 "Queuefloat" "closed" "[Z", Cond.arrayClass .int, Cond.fieldLink RX4 44 "Queuefloat" "papersOf" "[I", Cond.fieldLink RX4 48 "Queuefloat" "candidates" "[I", Cond.fieldLink RX4 51 "Queuefloat" "small" "I", Cond.fieldLink RX4 55 "Queuefloat" "paperPrice" "I", Cond.fieldLink RX4 58 "Queuefloat" "paperCut" "I", Cond.methodLink RX4 9 yX3_init, Cond.instanceMethod yX3_init, Cond.code yX3_init cX3_init 1 none, Cond.methodLink RX3 3 objectInit, Cond.fieldLink RX3 9 "Queuefloat$Sums" "accountOf" "[I", Cond.fieldLink RX3 15 "Queuefloat$Sums" "netPaid" "[I", Cond.methodLink RX4 21 yX0_init, Cond.instanceMethod yX0_init, Cond.code yX0_init cX0_init 2 none, Cond.methodLink RX0 3 objectInit]
def wsL_law0_r3 : List Cond := [Cond.fieldLink RX0 9 "Queuefloat$Limits" "floorOf" "[I", Cond.fieldLink RX0 15 "Queuefloat$Limits" "boundOf" "[I", Cond.constant RX0 18 (1000000), Cond.methodLink RX4 28 yX2_init, Cond.instanceMethod yX2_init, Cond.code yX2_init cX2_init 1 none, Cond.methodLink RX2 3 objectInit, Cond.fieldLink RX2 9 "Queuefloat$Payments" "from" "[I", Cond.fieldLink RX2 15 "Queuefloat$Payments" "to" "[I", Cond.fieldLink RX2 18 "Queuefloat$Payments" "amount" "[I", Cond.fieldLink RX2 21 "Queuefloat$Payments" "priorityOf" "[I", Cond.fieldLink RX2 24 "Queuefloat$Payments" "waits" "[Z", Cond.fieldLink RX2 28 "Queuefloat$Payments" "byPriority" "[I", Cond.methodLink RX4 35 yX1_init, Cond.instanceMethod yX1_init, Cond.code yX1_init cX1_init 1 none, Cond.methodLink RX1 3 objectInit, Cond.fieldLink RX1 9 "Queuefloat$Loans" "lender" "[I", Cond.fieldLink RX1 15 "Queuefloat$Loans" "borrower" "[I", Cond.fieldLink RX1 18 "Queuefloat$Loans" "due" "[I", Cond.fieldLink RX1 21 "Queuefloat$Loans" "pledge" "[I", Cond.methodLink RL 74 yX5_init, Cond.instanceMethod yX5_init, Cond.code yX5_init cX5_init 2 none]
def wsL_law0_r4 : List Cond := [Cond.methodLink RX5 1 objectInit, Cond.fieldLink RX5 7 "QueuefloatModel" "account" "[I", Cond.fieldLink RX5 13 "QueuefloatModel" "floor" "[I", Cond.fieldLink RX5 16 "QueuefloatModel" "papers" "[I", Cond.fieldLink RX5 19 "QueuefloatModel" "isClosed" "[Z", Cond.fieldLink RX5 23 "QueuefloatModel" "paid" "[I", Cond.fieldLink RX5 26 "QueuefloatModel" "bound" "[I", Cond.fieldLink RX5 29 "QueuefloatModel" "from" "[I", Cond.fieldLink RX5 32 "QueuefloatModel" "to" "[I", Cond.fieldLink RX5 35 "QueuefloatModel" "amount" "[I", Cond.fieldLink RX5 38 "QueuefloatModel" "priority" "[I", Cond.fieldLink RX5 41 "QueuefloatModel" "isWaiting" "[Z", Cond.fieldLink RX5 44 "QueuefloatModel" "small" "I", Cond.fieldLink RX5 48 "QueuefloatModel" "first" "[I", Cond.fieldLink RX5 51 "QueuefloatModel" "lender" "[I", Cond.fieldLink RX5 54 "QueuefloatModel" "borrower" "[I", Cond.fieldLink RX5 57 "QueuefloatModel" "lent" "[I", Cond.fieldLink RX5 60 "QueuefloatModel" "rate" "[I", Cond.fieldLink RX5 63 "QueuefloatModel" "pledged" "[I", Cond.fieldLink RX5 66 "QueuefloatModel" "isOpen" "[Z", Cond.fieldLink RX5 69 "QueuefloatModel" "price" "I", Cond.fieldLink RX5 72 "QueuefloatModel" "cut" "I", Cond.constant RX5 75 (1000000), Cond.methodLink RL 75 yL_fund]
def wsL_law0_r5 : List Cond := [Cond.static yL_fund, Cond.initialized RL, Cond.codeWith yL_fund cL_fund 5 (some .int) [(0, 10, 13, 13), (0, 10, 17, 15), (0, 10, 21, 17)], Cond.classLink RL 13 "java/lang/IndexOutOfBoundsException", Cond.classLink RL 15 "java/lang/IllegalArgumentException", Cond.classLink RL 17 "java/lang/IllegalStateException", Cond.methodLink RL 7 yX4_fund, Cond.instanceMethod yX4_fund, Cond.selects RX4 yX4_fund yX4_fund, Cond.code yX4_fund cX4_fund 3 (some .int), Cond.classLink RX4 77 "java/lang/IllegalStateException", Cond.initialized "java/lang/IllegalStateException", Cond.constant RX4 65 (1000000), Cond.fieldLink RX4 73 "Queuefloat$Sums" "accountOf" "[I", Cond.constant RX4 76 (100000000), Cond.methodLink RX4 61 yX4_requireBank, Cond.static yX4_requireBank, Cond.code yX4_requireBank cX4_requireBank 1 none, Cond.classLink RX4 140 "java/lang/IndexOutOfBoundsException", Cond.initialized "java/lang/IndexOutOfBoundsException", Cond.methodLink RX4 66 yX4_requireRange, Cond.static yX4_requireRange, Cond.code yX4_requireRange cX4_requireRange 3 none, Cond.classLink RX4 197 "java/lang/IllegalArgumentException"]
def wsL_law0_r6 : List Cond := [Cond.initialized "java/lang/IllegalArgumentException", Cond.methodLink RX4 70 yX4_requireOpen, Cond.instanceMethod yX4_requireOpen, Cond.selects RX4 yX4_requireOpen yX4_requireOpen, Cond.code yX4_requireOpen cX4_requireOpen 2 none, Cond.methodLink RL 80 yX5_fund, Cond.instanceMethod yX5_fund, Cond.selects RX5 yX5_fund yX5_fund, Cond.code yX5_fund cX5_fund 3 (some .int), Cond.constant RX5 98 (100000000), Cond.methodLink RX5 82 yX5_isBank, Cond.static yX5_isBank, Cond.code yX5_isBank cX5_isBank 1 (some .boolean), Cond.methodLink RX5 86 yX5_asks, Cond.instanceMethod yX5_asks, Cond.selects RX5 yX5_asks yX5_asks, Cond.code yX5_asks cX5_asks 2 (some .boolean), Cond.fieldLink RX5 76 "QueuefloatModel" "thrown" "I", Cond.methodLink RX5 90 yX5_in, Cond.static yX5_in, Cond.code yX5_in cX5_in 3 (some .boolean), Cond.methodLink RX5 94 yX5_fails, Cond.instanceMethod yX5_fails, Cond.selects RX5 yX5_fails yX5_fails]
def wsL_law0_r7 : List Cond := [Cond.code yX5_fails cX5_fails 2 (some .int), Cond.methodLink RL 81 yX5_thrown, Cond.instanceMethod yX5_thrown, Cond.selects RX5 yX5_thrown yX5_thrown, Cond.code yX5_thrown cX5_thrown 1 (some .int), Cond.methodLink RL 85 yL_setFloor, Cond.static yL_setFloor, Cond.codeWith yL_setFloor cL_setFloor 5 (some .int) [(0, 10, 13, 13), (0, 10, 17, 15)], Cond.methodLink RL 19 yX4_setFloor, Cond.instanceMethod yX4_setFloor, Cond.selects RX4 yX4_setFloor yX4_setFloor, Cond.code yX4_setFloor cX4_setFloor 4 (some .int), Cond.constant RX4 84 (-1000000), Cond.methodLink RX4 85 Lib.Math.min.name, Cond.static Lib.Math.min.name, Cond.initialized "java/lang/Math", Cond.code Lib.Math.min.name Lib.Math.min.code 2 (some .int), Cond.fieldLink RX4 91 "Queuefloat$Limits" "floorOf" "[I", Cond.methodLink RL 87 yX5_setFloor, Cond.instanceMethod yX5_setFloor, Cond.selects RX5 yX5_setFloor yX5_setFloor, Cond.code yX5_setFloor cX5_setFloor 4 (some .int), Cond.constant RX5 99 (-1000000), Cond.methodLink RL 88 yL_setBound]
def wsL_law0_r8 : List Cond := [Cond.static yL_setBound, Cond.codeWith yL_setBound cL_setBound 6 (some .int) [(0, 12, 15, 13), (0, 12, 19, 15)], Cond.methodLink RL 22 yX4_setBound, Cond.instanceMethod yX4_setBound, Cond.selects RX4 yX4_setBound yX4_setBound, Cond.code yX4_setBound cX4_setBound 6 (some .int), Cond.fieldLink RX4 101 "Queuefloat$Sums" "netPaid" "[I", Cond.methodLink RX4 104 Lib.Math.max.name, Cond.static Lib.Math.max.name, Cond.code Lib.Math.max.name Lib.Math.max.code 2 (some .int), Cond.fieldLink RX4 107 "Queuefloat$Limits" "boundOf" "[I", Cond.methodLink RX4 94 yX4_requireTwo, Cond.static yX4_requireTwo, Cond.code yX4_requireTwo cX4_requireTwo 2 none, Cond.methodLink RX4 98 yX4_pairOf, Cond.static yX4_pairOf, Cond.code yX4_pairOf cX4_pairOf 2 (some .int), Cond.methodLink RL 91 yX5_setBound, Cond.instanceMethod yX5_setBound, Cond.selects RX5 yX5_setBound yX5_setBound, Cond.code yX5_setBound cX5_setBound 6 (some .int), Cond.methodLink RL 92 yL_givePapers, Cond.static yL_givePapers, Cond.codeWith yL_givePapers cL_givePapers 5 (some .int) [(0, 10, 13, 13), (0, 10, 17, 15), (0, 10, 21, 17)]]
def wsL_law0_r9 : List Cond := [Cond.methodLink RL 26 yX4_givePapers, Cond.instanceMethod yX4_givePapers, Cond.selects RX4 yX4_givePapers yX4_givePapers, Cond.code yX4_givePapers cX4_givePapers 3 (some .int), Cond.constant RX4 110 (100000), Cond.methodLink RL 94 yX5_givePapers, Cond.instanceMethod yX5_givePapers, Cond.selects RX5 yX5_givePapers yX5_givePapers, Cond.code yX5_givePapers cX5_givePapers 3 (some .int), Cond.constant RX5 100 (100000), Cond.methodLink RL 95 yL_account, Cond.static yL_account, Cond.codeWith yL_account cL_account 4 (some .int) [(0, 9, 12, 13)], Cond.methodLink RL 29 yX4_account, Cond.instanceMethod yX4_account, Cond.selects RX4 yX4_account yX4_account, Cond.code yX4_account cX4_account 2 (some .int), Cond.methodLink RL 98 yX5_account, Cond.instanceMethod yX5_account, Cond.selects RX5 yX5_account yX5_account, Cond.code yX5_account cX5_account 2 (some .int), Cond.methodLink RL 99 yL_papers, Cond.static yL_papers, Cond.codeWith yL_papers cL_papers 4 (some .int) [(0, 9, 12, 13)]]
def wsL_law0_r10 : List Cond := [Cond.methodLink RL 33 yX4_papers, Cond.instanceMethod yX4_papers, Cond.selects RX4 yX4_papers yX4_papers, Cond.code yX4_papers cX4_papers 2 (some .int), Cond.methodLink RL 101 yX5_papers, Cond.instanceMethod yX5_papers, Cond.selects RX5 yX5_papers yX5_papers, Cond.code yX5_papers cX5_papers 2 (some .int), Cond.methodLink RL 102 yL_isOpen, Cond.static yL_isOpen, Cond.codeWith yL_isOpen cL_isOpen 4 (some .int) [(0, 16, 19, 13)], Cond.methodLink RL 36 yX4_isOpen, Cond.instanceMethod yX4_isOpen, Cond.selects RX4 yX4_isOpen yX4_isOpen, Cond.code yX4_isOpen cX4_isOpen 2 (some .boolean), Cond.methodLink RL 104 yX5_isOpen, Cond.instanceMethod yX5_isOpen, Cond.selects RX5 yX5_isOpen yX5_isOpen, Cond.code yX5_isOpen cX5_isOpen 2 (some .boolean), Cond.methodLink RL 105 yL_paid, Cond.static yL_paid, Cond.codeWith yL_paid cL_paid 5 (some .int) [(0, 10, 13, 13)], Cond.methodLink RL 40 yX4_paid, Cond.instanceMethod yX4_paid]
def wsL_law0_r11 : List Cond := [Cond.selects RX4 yX4_paid yX4_paid, Cond.code yX4_paid cX4_paid 3 (some .int), Cond.methodLink RL 107 yX5_paid, Cond.instanceMethod yX5_paid, Cond.selects RX5 yX5_paid yX5_paid, Cond.code yX5_paid cX5_paid 3 (some .int), Cond.methodLink RL 108 yL_pay, Cond.static yL_pay, Cond.codeWith yL_pay cL_pay 7 (some .int) [(0, 14, 17, 13), (0, 14, 21, 15), (0, 14, 25, 17)], Cond.methodLink RL 43 yX4_pay, Cond.instanceMethod yX4_pay, Cond.selects RX4 yX4_pay yX4_pay, Cond.code yX4_pay cX4_pay 5 (some .int), Cond.fieldLink RX4 113 "Queuefloat$Payments" "made" "I", Cond.methodLink RX4 118 yX2_enter, Cond.instanceMethod yX2_enter, Cond.selects RX2 yX2_enter yX2_enter, Cond.code yX2_enter cX2_enter 7 (some .int), Cond.fieldLink RX2 31 "Queuefloat$Payments" "made" "I", Cond.methodLink RL 111 yX5_pay, Cond.instanceMethod yX5_pay, Cond.selects RX5 yX5_pay yX5_pay, Cond.code yX5_pay cX5_pay 5 (some .int), Cond.fieldLink RX5 79 "QueuefloatModel" "payments" "I"]
def wsL_law0_r12 : List Cond := [Cond.methodLink RL 112 yL_drop, Cond.static yL_drop, Cond.codeWith yL_drop cL_drop 4 (some .int) [(0, 9, 12, 13), (0, 9, 15, 17)], Cond.methodLink RL 47 yX4_drop, Cond.instanceMethod yX4_drop, Cond.selects RX4 yX4_drop yX4_drop, Cond.code yX4_drop cX4_drop 2 (some .int), Cond.fieldLink RX4 125 "Queuefloat$Payments" "waits" "[Z", Cond.methodLink RX4 122 yX4_requirePayment, Cond.instanceMethod yX4_requirePayment, Cond.selects RX4 yX4_requirePayment yX4_requirePayment, Cond.code yX4_requirePayment cX4_requirePayment 2 none, Cond.methodLink RX4 130 yX2_countWaiting, Cond.instanceMethod yX2_countWaiting, Cond.selects RX2 yX2_countWaiting yX2_countWaiting, Cond.code yX2_countWaiting cX2_countWaiting 3 (some .int), Cond.methodLink RL 114 yX5_drop, Cond.instanceMethod yX5_drop, Cond.selects RX5 yX5_drop yX5_drop, Cond.code yX5_drop cX5_drop 2 (some .int), Cond.methodLink RX5 101 yX5_isPayment, Cond.instanceMethod yX5_isPayment, Cond.selects RX5 yX5_isPayment yX5_isPayment, Cond.code yX5_isPayment cX5_isPayment 2 (some .boolean)]
def wsL_law0_r13 : List Cond := [Cond.methodLink RX5 104 yX5_waiting, Cond.instanceMethod yX5_waiting, Cond.selects RX5 yX5_waiting yX5_waiting, Cond.code yX5_waiting cX5_waiting 3 (some .int), Cond.methodLink RL 115 yL_setSmall, Cond.static yL_setSmall, Cond.codeWith yL_setSmall cL_setSmall 4 (some .int) [(0, 9, 12, 15)], Cond.methodLink RL 50 yX4_setSmall, Cond.instanceMethod yX4_setSmall, Cond.selects RX4 yX4_setSmall yX4_setSmall, Cond.code yX4_setSmall cX4_setSmall 3 (some .int), Cond.methodLink RL 117 yX5_setSmall, Cond.instanceMethod yX5_setSmall, Cond.selects RX5 yX5_setSmall yX5_setSmall, Cond.code yX5_setSmall cX5_setSmall 3 (some .int), Cond.methodLink RL 118 yX4_run, Cond.instanceMethod yX4_run, Cond.selects RX4 yX4_run yX4_run, Cond.code yX4_run cX4_run 4 (some .int), Cond.methodLink RX4 134 yX4_goThroughBanks, Cond.instanceMethod yX4_goThroughBanks, Cond.selects RX4 yX4_goThroughBanks yX4_goThroughBanks, Cond.code yX4_goThroughBanks cX4_goThroughBanks 4 (some .int), Cond.methodLink RX4 230 yX4_nextToGo]
def wsL_law0_r14 : List Cond := [Cond.instanceMethod yX4_nextToGo, Cond.selects RX4 yX4_nextToGo yX4_nextToGo, Cond.code yX4_nextToGo cX4_nextToGo 3 (some .int), Cond.methodLink RX4 145 yX2_inQueue, Cond.instanceMethod yX2_inQueue, Cond.selects RX2 yX2_inQueue yX2_inQueue, Cond.code yX2_inQueue cX2_inQueue 5 (some .int), Cond.methodLink RX2 44 yX2_waitsAt, Cond.instanceMethod yX2_waitsAt, Cond.selects RX2 yX2_waitsAt yX2_waitsAt, Cond.code yX2_waitsAt cX2_waitsAt 3 (some .boolean), Cond.methodLink RX4 148 yX4_obstacle, Cond.instanceMethod yX4_obstacle, Cond.selects RX4 yX4_obstacle yX4_obstacle, Cond.code yX4_obstacle cX4_obstacle 5 (some .int), Cond.fieldLink RX4 217 "Queuefloat$Payments" "from" "[I", Cond.fieldLink RX4 220 "Queuefloat$Payments" "amount" "[I", Cond.fieldLink RX4 223 "Queuefloat$Payments" "to" "[I", Cond.methodLink RX4 236 yX4_firstSmallFree, Cond.instanceMethod yX4_firstSmallFree, Cond.selects RX4 yX4_firstSmallFree yX4_firstSmallFree, Cond.code yX4_firstSmallFree cX4_firstSmallFree 4 (some .int), Cond.fieldLink RX4 239 "Queuefloat$Payments" "byPriority" "[I", Cond.methodLink RX4 242 yX2_waitsAt]
def wsL_law0_r15 : List Cond := [Cond.methodLink RX4 233 yX4_send, Cond.instanceMethod yX4_send, Cond.selects RX4 yX4_send yX4_send, Cond.code yX4_send cX4_send 2 none, Cond.methodLink RX4 226 yX2_apply, Cond.instanceMethod yX2_apply, Cond.selects RX2 yX2_apply yX2_apply, Cond.code yX2_apply cX2_apply 3 none, Cond.methodLink RX2 35 yX3_move, Cond.instanceMethod yX3_move, Cond.selects RX3 yX3_move yX3_move, Cond.code yX3_move cX3_move 4 none, Cond.methodLink RX2 41 yX3_notePaid, Cond.instanceMethod yX3_notePaid, Cond.selects RX3 yX3_notePaid yX3_notePaid, Cond.code yX3_notePaid cX3_notePaid 4 none, Cond.methodLink RX4 137 yX4_sendLargestSet, Cond.instanceMethod yX4_sendLargestSet, Cond.selects RX4 yX4_sendLargestSet yX4_sendLargestSet, Cond.code yX4_sendLargestSet cX4_sendLargestSet 3 (some .int), Cond.methodLink RX4 245 yJ6_bitCount_0f7a4, Cond.static yJ6_bitCount_0f7a4, Cond.initialized RJ6, Cond.code yJ6_bitCount_0f7a4 cJ6_bitCount_0f7a4 1 (some .int)]
def wsL_law0_r16 : List Cond := [Cond.constant RJ6 265 (1431655765), Cond.constant RJ6 266 (858993459), Cond.constant RJ6 267 (252645135), Cond.methodLink RX4 157 yX4_canGoTogether, Cond.instanceMethod yX4_canGoTogether, Cond.selects RX4 yX4_canGoTogether yX4_canGoTogether, Cond.code yX4_canGoTogether cX4_canGoTogether 4 (some .boolean), Cond.methodLink RX4 253 yX3_copy, Cond.instanceMethod yX3_copy, Cond.selects RX3 yX3_copy yX3_copy, Cond.code yX3_copy cX3_copy 2 none, Cond.methodLink RX3 22 arraycopyName, Cond.native arraycopyName, Cond.static arraycopyName, Cond.initialized "java/lang/System", Cond.methodLink RX4 250 yX4_isIn, Cond.static yX4_isIn, Cond.code yX4_isIn cX4_isIn 2 (some .boolean), Cond.methodLink RX4 257 yX0_allow, Cond.instanceMethod yX0_allow, Cond.selects RX0 yX0_allow yX0_allow, Cond.code yX0_allow cX0_allow 3 (some .boolean), Cond.fieldLink RX0 19 "Queuefloat$Sums" "accountOf" "[I", Cond.fieldLink RX0 24 "Queuefloat$Sums" "netPaid" "[I"]
def wsL_law0_r17 : List Cond := [Cond.methodLink RL 121 yX5_run, Cond.instanceMethod yX5_run, Cond.selects RX5 yX5_run yX5_run, Cond.code yX5_run cX5_run 6 (some .int), Cond.methodLink RX5 133 yX5_next, Cond.instanceMethod yX5_next, Cond.selects RX5 yX5_next yX5_next, Cond.code yX5_next cX5_next 5 (some .int), Cond.methodLink RX5 112 yX5_at, Cond.instanceMethod yX5_at, Cond.selects RX5 yX5_at yX5_at, Cond.code yX5_at cX5_at 6 (some .int), Cond.methodLink RX5 116 yX5_reason, Cond.instanceMethod yX5_reason, Cond.selects RX5 yX5_reason yX5_reason, Cond.code yX5_reason cX5_reason 4 (some .int), Cond.methodLink RX5 126 yX5_goes, Cond.instanceMethod yX5_goes, Cond.selects RX5 yX5_goes yX5_goes, Cond.code yX5_goes cX5_goes 2 none, Cond.methodLink RX5 108 yX5_moves, Cond.instanceMethod yX5_moves, Cond.selects RX5 yX5_moves yX5_moves, Cond.code yX5_moves cX5_moves 4 none]
def wsL_law0_r18 : List Cond := [Cond.methodLink RX5 136 yX5_goTogether, Cond.instanceMethod yX5_goTogether, Cond.selects RX5 yX5_goTogether yX5_goTogether, Cond.code yX5_goTogether cX5_goTogether 8 (some .int), Cond.methodLink RX5 119 yX5_isSet, Cond.instanceMethod yX5_isSet, Cond.selects RX5 yX5_isSet yX5_isSet, Cond.code yX5_isSet cX5_isSet 4 (some .boolean), Cond.methodLink RX5 122 yX5_firsts, Cond.instanceMethod yX5_firsts, Cond.selects RX5 yX5_firsts yX5_firsts, Cond.code yX5_firsts cX5_firsts 3 none, Cond.methodLink RX5 129 yX5_isSound, Cond.instanceMethod yX5_isSound, Cond.selects RX5 yX5_isSound yX5_isSound, Cond.code yX5_isSound cX5_isSound 3 (some .boolean), Cond.methodLink RL 122 yL_queued, Cond.static yL_queued, Cond.codeWith yL_queued cL_queued 5 (some .int) [(0, 10, 13, 13)], Cond.methodLink RL 53 yX4_queued, Cond.instanceMethod yX4_queued, Cond.selects RX4 yX4_queued yX4_queued, Cond.code yX4_queued cX4_queued 3 (some .int), Cond.methodLink RL 124 yX5_queued]
def wsL_law0_r19 : List Cond := [Cond.instanceMethod yX5_queued, Cond.selects RX5 yX5_queued yX5_queued, Cond.code yX5_queued cX5_queued 3 (some .int), Cond.methodLink RL 125 yL_why, Cond.static yL_why, Cond.codeWith yL_why cL_why 4 (some .int) [(0, 9, 12, 13)], Cond.methodLink RL 56 yX4_why, Cond.instanceMethod yX4_why, Cond.selects RX4 yX4_why yX4_why, Cond.code yX4_why cX4_why 2 (some .int), Cond.methodLink RL 127 yX5_why, Cond.instanceMethod yX5_why, Cond.selects RX5 yX5_why yX5_why, Cond.code yX5_why cX5_why 2 (some .int), Cond.methodLink RL 128 yL_canAny, Cond.static yL_canAny, Cond.codeWith yL_canAny cL_canAny 3 (some .int) [(0, 15, 18, 17)], Cond.methodLink RL 59 yX4_canAny, Cond.instanceMethod yX4_canAny, Cond.selects RX4 yX4_canAny yX4_canAny, Cond.code yX4_canAny cX4_canAny 3 (some .boolean), Cond.methodLink RX4 154 yX4_listWaiting, Cond.instanceMethod yX4_listWaiting, Cond.selects RX4 yX4_listWaiting yX4_listWaiting]
def wsL_law0_r20 : List Cond := [Cond.code yX4_listWaiting cX4_listWaiting 3 (some .int), Cond.methodLink RL 131 yX5_canAny, Cond.instanceMethod yX5_canAny, Cond.selects RX5 yX5_canAny yX5_canAny, Cond.code yX5_canAny cX5_canAny 3 (some .boolean), Cond.methodLink RX5 139 yX5_moveSet, Cond.instanceMethod yX5_moveSet, Cond.selects RX5 yX5_moveSet yX5_moveSet, Cond.code yX5_moveSet cX5_moveSet 5 none, Cond.methodLink RL 132 yL_setPrice, Cond.static yL_setPrice, Cond.codeWith yL_setPrice cL_setPrice 4 (some .int) [(0, 6, 9, 15)], Cond.methodLink RL 63 yX4_setPrice, Cond.instanceMethod yX4_setPrice, Cond.selects RX4 yX4_setPrice yX4_setPrice, Cond.code yX4_setPrice cX4_setPrice 3 none, Cond.methodLink RL 135 yX5_setPrice, Cond.instanceMethod yX5_setPrice, Cond.selects RX5 yX5_setPrice yX5_setPrice, Cond.code yX5_setPrice cX5_setPrice 3 none, Cond.methodLink RL 136 yL_lend, Cond.static yL_lend, Cond.codeWith yL_lend cL_lend 8 (some .int) [(0, 16, 19, 13), (0, 16, 23, 15), (0, 16, 27, 17)], Cond.methodLink RL 67 yX4_lend]
def wsL_law0_r21 : List Cond := [Cond.instanceMethod yX4_lend, Cond.selects RX4 yX4_lend yX4_lend, Cond.code yX4_lend cX4_lend 6 (some .int), Cond.methodLink RX4 161 yX4_requireLoanable, Cond.instanceMethod yX4_requireLoanable, Cond.selects RX4 yX4_requireLoanable yX4_requireLoanable, Cond.code yX4_requireLoanable cX4_requireLoanable 5 none, Cond.fieldLink RX4 169 "Queuefloat$Loans" "made" "I", Cond.methodLink RX4 210 yX4_pledgeWorth, Cond.instanceMethod yX4_pledgeWorth, Cond.selects RX4 yX4_pledgeWorth yX4_pledgeWorth, Cond.code yX4_pledgeWorth cX4_pledgeWorth 2 (some .int), Cond.methodLink RX4 165 yX3_move, Cond.methodLink RX4 168 yX1_enter, Cond.instanceMethod yX1_enter, Cond.selects RX1 yX1_enter yX1_enter, Cond.code yX1_enter cX1_enter 6 (some .int), Cond.fieldLink RX1 24 "Queuefloat$Loans" "made" "I", Cond.methodLink RL 139 yX5_lend, Cond.instanceMethod yX5_lend, Cond.selects RX5 yX5_lend yX5_lend, Cond.code yX5_lend cX5_lend 8 (some .int), Cond.constantLong RX5 142 (1000), Cond.fieldLink RX5 144 "QueuefloatModel" "loans" "I"]
def wsL_law0_r22 : List Cond := [Cond.methodLink RL 140 yX4_loans, Cond.instanceMethod yX4_loans, Cond.selects RX4 yX4_loans yX4_loans, Cond.code yX4_loans cX4_loans 1 (some .int), Cond.fieldLink RX4 170 "Queuefloat$Loans" "ended" "I", Cond.methodLink RL 143 yX5_loans, Cond.instanceMethod yX5_loans, Cond.selects RX5 yX5_loans yX5_loans, Cond.code yX5_loans cX5_loans 3 (some .int), Cond.methodLink RL 144 yX4_morning, Cond.instanceMethod yX4_morning, Cond.selects RX4 yX4_morning yX4_morning, Cond.code yX4_morning cX4_morning 3 (some .int), Cond.fieldLink RX4 183 "Queuefloat$Loans" "borrower" "[I", Cond.methodLink RX4 173 yX3_forgetPaid, Cond.instanceMethod yX3_forgetPaid, Cond.selects RX3 yX3_forgetPaid yX3_forgetPaid, Cond.code yX3_forgetPaid cX3_forgetPaid 2 none, Cond.methodLink RX4 176 yX4_canRepay, Cond.instanceMethod yX4_canRepay, Cond.selects RX4 yX4_canRepay yX4_canRepay, Cond.code yX4_canRepay cX4_canRepay 3 (some .boolean), Cond.fieldLink RX4 261 "Queuefloat$Loans" "due" "[I", Cond.methodLink RX4 180 yX4_repay]
def wsL_law0_r23 : List Cond := [Cond.instanceMethod yX4_repay, Cond.selects RX4 yX4_repay yX4_repay, Cond.code yX4_repay cX4_repay 3 none, Cond.fieldLink RX4 264 "Queuefloat$Loans" "lender" "[I", Cond.fieldLink RX4 267 "Queuefloat$Loans" "pledge" "[I", Cond.methodLink RX4 186 yX4_close, Cond.instanceMethod yX4_close, Cond.selects RX4 yX4_close yX4_close, Cond.code yX4_close cX4_close 2 (some .int), Cond.methodLink RX4 270 yX2_dropAllOf, Cond.instanceMethod yX2_dropAllOf, Cond.selects RX2 yX2_dropAllOf yX2_dropAllOf, Cond.code yX2_dropAllOf cX2_dropAllOf 3 none, Cond.methodLink RX4 189 yX4_sellPledge, Cond.instanceMethod yX4_sellPledge, Cond.selects RX4 yX4_sellPledge yX4_sellPledge, Cond.code yX4_sellPledge cX4_sellPledge 4 none, Cond.fieldLink RX4 192 "Queuefloat" "proceeds" "I", Cond.methodLink RL 147 yX5_morning, Cond.instanceMethod yX5_morning, Cond.selects RX5 yX5_morning yX5_morning, Cond.code yX5_morning cX5_morning 3 (some .int), Cond.methodLink RX5 153 yX5_ends, Cond.instanceMethod yX5_ends]
def wsL_law0_r24 : List Cond := [Cond.selects RX5 yX5_ends yX5_ends, Cond.code yX5_ends cX5_ends 7 (some .boolean), Cond.fieldLink RX5 147 "QueuefloatModel" "sold" "I", Cond.methodLink RX5 150 yX5_closes, Cond.instanceMethod yX5_closes, Cond.selects RX5 yX5_closes yX5_closes, Cond.code yX5_closes cX5_closes 3 none, Cond.methodLink RL 148 yX4_sold, Cond.instanceMethod yX4_sold, Cond.selects RX4 yX4_sold yX4_sold, Cond.code yX4_sold cX4_sold 1 (some .int), Cond.methodLink RL 151 yX5_sold, Cond.instanceMethod yX5_sold, Cond.selects RX5 yX5_sold yX5_sold, Cond.code yX5_sold cX5_sold 1 (some .int)]
def wsL_law0 : List Cond := (wsL_law0_r1 ++ (wsL_law0_r2 ++ (wsL_law0_r3 ++ (wsL_law0_r4 ++ (wsL_law0_r5 ++ (wsL_law0_r6 ++ (wsL_law0_r7 ++ (wsL_law0_r8 ++ (wsL_law0_r9 ++ (wsL_law0_r10 ++ (wsL_law0_r11 ++ (wsL_law0_r12 ++ (wsL_law0_r13 ++ (wsL_law0_r14 ++ (wsL_law0_r15 ++ (wsL_law0_r16 ++ (wsL_law0_r17 ++ (wsL_law0_r18 ++ (wsL_law0_r19 ++ (wsL_law0_r20 ++ (wsL_law0_r21 ++ (wsL_law0_r22 ++ (wsL_law0_r23 ++ wsL_law0_r24))))))))))))))))))))))) ++ wsX40 ++ wsX50 ++ wsX30 ++ wsX00 ++ wsX20 ++ wsX10 ++ ([] : List Cond)
def wsL_law : List Cond := wsL_law0 ++ (vx_atS RX4 81 "java/lang/IllegalStateException" ["java/lang/RuntimeException", "java/lang/Exception"]).filter goodWord ++ (vx_atS RX4 144 "java/lang/IndexOutOfBoundsException" ["java/lang/RuntimeException", "java/lang/Exception"]).filter goodWord ++ (vx_atS RX4 201 "java/lang/IllegalArgumentException" ["java/lang/RuntimeException", "java/lang/Exception"]).filter goodWord
abbrev vwCl : List vw_C := [(RX0, TX0, 2), (RX1, TX1, 6), (RX2, TX2, 7), (RX3, TX3, 2), (RX4, TX4, 12), (RX5, TX5, 25)]
end
section
/-! The Z layer: a frame seen as a world and a list of locals; a row an instruction, a row a call. -/
section ZZ
def zStr : List (Nat × String) := [(195, "there is no such bank"), (202, "a value is out of range"), (204, "the bank is closed"), (79, "the account would be too large"), (199, "both banks are the same"), (111, "the bank would have too many papers"), (116, "there are no more payments to be had"), (206, "there is no such payment"), (128, "the payment does not wait"), (142, "there is no such place"), (152, "too many payments wait"), (208, "there are no more loans to be had"), (213, "the pledge does not cover the loan"), (215, "the lender would be below its floor")]
def zEI : String := "java/lang/IndexOutOfBoundsException"
def zEA : String := "java/lang/IllegalArgumentException"
def zES : String := "java/lang/IllegalStateException"
def zEs : List String := ["java/lang/IndexOutOfBoundsException", "java/lang/IllegalArgumentException", "java/lang/IllegalStateException"]
def zNcs : List (String × String) := [("java/lang/IllegalArgumentException", "java/lang/IndexOutOfBoundsException"), ("java/lang/IllegalStateException", "java/lang/IndexOutOfBoundsException"), ("java/lang/IllegalStateException", "java/lang/IllegalArgumentException")]
/-- what the methods need beside their words: the texts, the nest mate's link, the exceptions' classes, the two statics of Throwable -/
def zG (sa : Nat → Nat) (A : Nat → Prop) (U : State) (H : Heap) : Prop :=
  (∀ q ∈ zStr, vk_R RX4 q.1 q.2 (sa q.1) U) ∧ va_Nw (.methodLinkNest RX3 18 yX4_pairOf RX4) U ∧ (∀ E ∈ zEs, va_Nw (.castable E E) U) ∧ (∀ q ∈ zNcs, va_Nc q.1 q.2 U) ∧
  vx_Zq Bundle.tN "UNASSIGNED_STACK" Bundle.steD A U H ∧ vx_Zq Bundle.tN "SUPPRESSED_SENTINEL" Bundle.listD A U H
theorem zG.go {sa : Nat → Nat} {A B : Nat → Prop} {s U : State} {H H1 : Heap} (hW : s.WarmedH U.vm) (h : zG sa A s H) (hq : ∀ a : Nat, a < H.size → ¬ A a → H1[a]? = H[a]?) (hAB : ∀ q, B q → A q) : zG sa B U H1 := by
  obtain ⟨h1, h2, h3, h4, h5, h6⟩ := h
  refine ⟨fun q hq => vk_R.warm hW (h1 q hq), va_Nw.warmM hW h2, fun E hE => ?_, fun q hq => va_Nc.moved hW.alike (h4 q hq), vx_Zq.moved hW.alike ((h5.kept hq).narrow hAB), vx_Zq.moved hW.alike ((h6.kept hq).narrow hAB)⟩
  have h7 := h3 E hE
  have h8 : (Cond.castable E E).before #[] (s.setVm U.vm) = true := by
    rw [Cond.castable_setVm hW.alike]; exact h7
  exact va_tabs rfl (rfl : (s.setVm U.vm).vm = U.vm) h8
/-- a callee's world wc among ws; behind it w1 in its place: ws' -/
def zSub (ws wc w1 ws' : va_W) : Prop :=
  (∀ (D : va_G) (cl : List vw_C) (H : Heap), va_P D cl ws H → va_P D cl wc H) ∧ (∀ A : Nat → Prop, va_D A ws → va_D A wc) ∧
  ∀ (D : va_G) (cl : List vw_C) (A : Nat → Prop) (H H1 : Heap), va_P D cl ws H → va_D A ws → (∀ q : Nat, va_A wc H.size q → A q) → (∀ q : Nat, q < H.size → ¬ va_A wc H.size q → H1[q]? = H[q]?) → va_P D cl w1 H1 → va_D (va_A wc H.size) w1 → va_P D cl ws' H1 ∧ va_D A ws'
def zIn (ws wc : va_W) : Prop := (∀ (D : va_G) (cl : List vw_C) (H : Heap), va_P D cl ws H → va_P D cl wc H) ∧ ∀ A : Nat → Prop, va_D A ws → va_D A wc
theorem zIn.full {ws : va_W} : zIn ws ws := ⟨fun _ _ _ h => h, fun _ h => h⟩
theorem zIn.none {ws : va_W} : zIn ws [] := ⟨fun _ _ _ _ k q h => by simp at h, fun _ _ => ⟨fun i j p q h => by simp at h, fun k q h => by simp at h⟩⟩
theorem zSub.full {ws w1 : va_W} : zSub ws ws w1 w1 := ⟨fun _ _ _ h => h, fun _ h => h, fun D cl A H H1 hP hD hF hk hP1 hD1 => ⟨hP1, hD1.weaken (fun _ q _ h => hF q.1 h)⟩⟩
theorem zSub.none {ws : va_W} : zSub ws [] [] ws := by
  refine ⟨fun _ _ _ _ k q h => by simp at h, fun _ _ => ⟨fun i j p q h => by simp at h, fun k q h => by simp at h⟩, fun D cl A H H1 hP hD hF hk hP1 hD1 => ⟨hP.kept (fun k q hq => ?_), hD⟩⟩
  have hl := (hP k q hq).lt
  refine hk q.1 hl (fun z => ?_)
  rcases z with ⟨k2, e, h⟩ | h
  · simp at h
  · omega
theorem zfm {ws wc : va_W} : ∀ {is : List Nat}, is.map (fun i => ws[i]?) = wc.map some → is.filterMap (fun i => ws[i]?) = wc := by
  intro is h
  have h2 : is.filterMap (fun i => ws[i]?) = (is.map (fun i => ws[i]?)).filterMap id := by
    rw [List.filterMap_map]; rfl
  rw [h2, h, List.filterMap_map]
  simp
theorem zIn.of {ws wc : va_W} (isC : List Nat) (hC : isC.map (fun i => ws[i]?) = wc.map some) (hnC : va_nd isC = true) : zIn ws wc := ⟨fun D cl H hP => hP.sub isC (zfm hC), fun A hD => hD.sub isC hnC hC⟩
theorem zSub.of {ws wc wr w1 ws' : va_W} (isC isR ks : List Nat) (hC : isC.map (fun i => ws[i]?) = wc.map some) (hR : isR.map (fun i => ws[i]?) = wr.map some) (hnC : va_nd isC = true) (hnR : va_nd isR = true) (hdis : ∀ i ∈ isR, i ∉ isC)
    (hks : ks.map (fun i => (wr ++ w1)[i]?) = ws'.map some) (hnk : va_nd ks = true) : zSub ws wc w1 ws' := by
  refine ⟨fun D cl H hP => hP.sub isC (zfm hC), fun A hD => hD.sub isC hnC hC, fun D cl A H H1 hP hD hF hk hP1 hD1 => ?_⟩
  obtain ⟨g1, g2⟩ := va_join (wr := wr) (w1 := w1) hP hD isC isR hC hR hnR hdis hk hF hP1 hD1
  exact ⟨g1.sub ks (zfm hks), g2.sub ks hnk hks⟩
variable {p : Program} {l : Launch} {e : Env} {R : Room} {s : State} {m : MethodId} {args : Array Value} {below : List Frame} {meth : Method} {c : Code} {Q : State → Prop} {D : va_G} {cl : List vw_C} {A : Nat → Prop} {tys : List (ClassId × FieldType)} {cc : ByteArray} {nL : Nat} {own : String} {Ts : List Cond} {sa : Nat → Nat} {ret : Option FieldType}
variable {cells slots : Nat} {ws ws' : va_W} {lv lv' : List (Nat × Value)} {pc : Nat} {st rest : List Value}
/-- the method, the machine and the tables -/
def zK (sa : Nat → Nat) (D : va_G) (cl : List vw_C) (tys : List (ClassId × FieldType)) (A : Nat → Prop) (p : Program) (s : State) (m : MethodId) (args : Array Value) (meth : Method) (c : Code) (cc : ByteArray) (nL : Nat) (own : String) (Ts : List Cond) (ret : Option FieldType) : Prop :=
  p.tables.exec = Jvm.exec ∧ c.code = cc ∧ c.maxLocals = nL ∧ s.vm.findClass own = some m.cls ∧ (∀ w ∈ Ts, w.before args s = true) ∧ va_K D cl tys s ∧ (∀ q : Nat, s.heap.size ≤ q → A q) ∧ zG sa A s s.heap ∧ meth.locks = false ∧ meth.sig.returnType = ret
/-- at pc, over any heap that holds ws, with the locals lv and the stack st, the machine comes to Q -/
def zW (p : Program) (l : Launch) (e : Env) (R : Room) (s : State) (m : MethodId) (args : Array Value) (below : List Frame) (meth : Method) (c : Code) (Q : State → Prop) (D : va_G) (cl : List vw_C) (A : Nat → Prop) (nL cells slots : Nat) (ws : va_W) (lv : List (Nat × Value)) (pc : Nat) (st : List Value) : Prop :=
  ∀ (H : Heap) (locs : List Loc) (ls : Array Slot), va_P D cl ws H → va_D A ws → va_S A s.heap H locs → lv_has ls nL lv → W p l e R s m args below meth c H locs cells slots Q (F0 m pc ls st)
theorem z_iconst (C : zK sa D cl tys A p s m args meth c cc nL own Ts ret) {n : Int} {v : Int32} (hdg : decode cc pc = .ok (.iconst n, 1)) (hv : Int32.ofInt n = v) (kk : zW p l e R s m args below meth c Q D cl A nL cells slots ws lv (pc + 1) (.int v :: st)) : zW p l e R s m args below meth c Q D cl A nL cells slots ws lv pc st :=
  fun H locs ls hP hD hS hl => lv_iconst C.1 C.2.1 hdg hv (kk H locs ls hP hD hS hl)
theorem z_bipush (C : zK sa D cl tys A p s m args meth c cc nL own Ts ret) {n : Int} {v : Int32} (hdg : decode cc pc = .ok (.bipush n, 2)) (hv : (Int8.ofInt n).toInt32 = v) (kk : zW p l e R s m args below meth c Q D cl A nL cells slots ws lv (pc + 2) (.int v :: st)) : zW p l e R s m args below meth c Q D cl A nL cells slots ws lv pc st :=
  fun H locs ls hP hD hS hl => lv_bipush C.1 C.2.1 hdg hv (kk H locs ls hP hD hS hl)
theorem z_sipush (C : zK sa D cl tys A p s m args meth c cc nL own Ts ret) {n : Int} {v : Int32} (hdg : decode cc pc = .ok (.sipush n, 3)) (hv : (Int16.ofInt n).toInt32 = v) (kk : zW p l e R s m args below meth c Q D cl A nL cells slots ws lv (pc + 3) (.int v :: st)) : zW p l e R s m args below meth c Q D cl A nL cells slots ws lv pc st :=
  fun H locs ls hP hD hS hl => lv_sipush C.1 C.2.1 hdg hv (kk H locs ls hP hD hS hl)
theorem z_lconst (C : zK sa D cl tys A p s m args meth c cc nL own Ts ret) {n : Fin 2} {v : Int64} (hdg : decode cc pc = .ok (.lconst n, 1)) (hv : Int64.ofNat (n : Nat) = v) (kk : zW p l e R s m args below meth c Q D cl A nL cells slots ws lv (pc + 1) (.long v :: st)) : zW p l e R s m args below meth c Q D cl A nL cells slots ws lv pc st :=
  fun H locs ls hP hD hS hl => lv_lconst C.1 C.2.1 hdg hv (kk H locs ls hP hD hS hl)
theorem z_ldc (C : zK sa D cl tys A p s m args meth c cc nL own Ts ret) {index : Nat} {v : Int32} (hm : Cond.constant own index v ∈ Ts) (hdg : decode cc pc = .ok (.ldc index, 2)) (kk : zW p l e R s m args below meth c Q D cl A nL cells slots ws lv (pc + 2) (.int v :: st)) : zW p l e R s m args below meth c Q D cl A nL cells slots ws lv pc st :=
  fun H locs ls hP hD hS hl => lv_ldc C.1 C.2.1 C.2.2.2.1 (C.2.2.2.2.1 _ hm) hdg (kk H locs ls hP hD hS hl)
theorem z_ldc2 (C : zK sa D cl tys A p s m args meth c cc nL own Ts ret) {index : Nat} {v : Int64} (hm : Cond.constantLong own index v ∈ Ts) (hdg : decode cc pc = .ok (.ldc2_w index, 3)) (kk : zW p l e R s m args below meth c Q D cl A nL cells slots ws lv (pc + 3) (.long v :: st)) : zW p l e R s m args below meth c Q D cl A nL cells slots ws lv pc st :=
  fun H locs ls hP hD hS hl => lv_ldc2 C.1 C.2.1 C.2.2.2.1 (C.2.2.2.2.1 _ hm) hdg (kk H locs ls hP hD hS hl)
theorem z_iload_n (C : zK sa D cl tys A p s m args meth c cc nL own Ts ret) {k : Fin 4} {i : Nat} {x : Int32} (hdg : decode cc pc = .ok (.iload_n k, 1)) (hi : (k : Nat) = i) (j : Nat) (hj : lv[j]? = some (i, .int x)) (kk : zW p l e R s m args below meth c Q D cl A nL cells slots ws lv (pc + 1) (.int x :: st)) : zW p l e R s m args below meth c Q D cl A nL cells slots ws lv pc st :=
  fun H locs ls hP hD hS hl => lv_iload_n C.1 C.2.1 hdg hi (lv_at hl j hj) (kk H locs ls hP hD hS hl)
theorem z_iload (C : zK sa D cl tys A p s m args meth c cc nL own Ts ret) {i : Nat} {x : Int32} (hdg : decode cc pc = .ok (.iload i, 2)) (j : Nat) (hj : lv[j]? = some (i, .int x)) (kk : zW p l e R s m args below meth c Q D cl A nL cells slots ws lv (pc + 2) (.int x :: st)) : zW p l e R s m args below meth c Q D cl A nL cells slots ws lv pc st :=
  fun H locs ls hP hD hS hl => lv_iload C.1 C.2.1 hdg (lv_at hl j hj) (kk H locs ls hP hD hS hl)
theorem z_lload_n (C : zK sa D cl tys A p s m args meth c cc nL own Ts ret) {k : Fin 4} {i : Nat} {x : Int64} (hdg : decode cc pc = .ok (.lload_n k, 1)) (hi : (k : Nat) = i) (j : Nat) (hj : lv[j]? = some (i, .long x)) (kk : zW p l e R s m args below meth c Q D cl A nL cells slots ws lv (pc + 1) (.long x :: st)) : zW p l e R s m args below meth c Q D cl A nL cells slots ws lv pc st :=
  fun H locs ls hP hD hS hl => lv_lload_n C.1 C.2.1 hdg hi (lv_at hl j hj) (kk H locs ls hP hD hS hl)
theorem z_lload (C : zK sa D cl tys A p s m args meth c cc nL own Ts ret) {i : Nat} {x : Int64} (hdg : decode cc pc = .ok (.lload i, 2)) (j : Nat) (hj : lv[j]? = some (i, .long x)) (kk : zW p l e R s m args below meth c Q D cl A nL cells slots ws lv (pc + 2) (.long x :: st)) : zW p l e R s m args below meth c Q D cl A nL cells slots ws lv pc st :=
  fun H locs ls hP hD hS hl => lv_lload C.1 C.2.1 hdg (lv_at hl j hj) (kk H locs ls hP hD hS hl)
theorem z_aload_n (C : zK sa D cl tys A p s m args meth c cc nL own Ts ret) {k : Fin 4} {i : Nat} {x : Nat} (hdg : decode cc pc = .ok (.aload_n k, 1)) (hi : (k : Nat) = i) (j : Nat) (hj : lv[j]? = some (i, .ref x)) (kk : zW p l e R s m args below meth c Q D cl A nL cells slots ws lv (pc + 1) (.ref x :: st)) : zW p l e R s m args below meth c Q D cl A nL cells slots ws lv pc st :=
  fun H locs ls hP hD hS hl => lv_aload_n C.1 C.2.1 hdg hi (lv_at hl j hj) (kk H locs ls hP hD hS hl)
theorem z_aload (C : zK sa D cl tys A p s m args meth c cc nL own Ts ret) {i : Nat} {x : Nat} (hdg : decode cc pc = .ok (.aload i, 2)) (j : Nat) (hj : lv[j]? = some (i, .ref x)) (kk : zW p l e R s m args below meth c Q D cl A nL cells slots ws lv (pc + 2) (.ref x :: st)) : zW p l e R s m args below meth c Q D cl A nL cells slots ws lv pc st :=
  fun H locs ls hP hD hS hl => lv_aload C.1 C.2.1 hdg (lv_at hl j hj) (kk H locs ls hP hD hS hl)
theorem z_istore_n (C : zK sa D cl tys A p s m args meth c cc nL own Ts ret) {k : Fin 4} {i : Nat} {x : Int32} (hdg : decode cc pc = .ok (.istore_n k, 1)) (hi : (k : Nat) = i) (hn : i < nL) (lv' : List (Nat × Value)) (ks : List Nat) (hl9 : lv_pick ((i, Value.int x) :: lv.filter (fun q => !(q.1 == i) && !(q.1 + 1 == i && q.2.category == 2))) ks = lv') (kk : zW p l e R s m args below meth c Q D cl A nL cells slots ws lv' (pc + 1) st) : zW p l e R s m args below meth c Q D cl A nL cells slots ws lv pc (.int x :: st) :=
  fun H locs ls hP hD hS hl => lv_istore_n C.1 C.2.1 hdg hi hl hn rfl (fun ls1 hl1 => kk H locs ls1 hP hD hS (lv_sub hl1 ks hl9))
theorem z_istore (C : zK sa D cl tys A p s m args meth c cc nL own Ts ret) {i : Nat} {x : Int32} (hdg : decode cc pc = .ok (.istore i, 2)) (hn : i < nL) (lv' : List (Nat × Value)) (ks : List Nat) (hl9 : lv_pick ((i, Value.int x) :: lv.filter (fun q => !(q.1 == i) && !(q.1 + 1 == i && q.2.category == 2))) ks = lv') (kk : zW p l e R s m args below meth c Q D cl A nL cells slots ws lv' (pc + 2) st) : zW p l e R s m args below meth c Q D cl A nL cells slots ws lv pc (.int x :: st) :=
  fun H locs ls hP hD hS hl => lv_istore C.1 C.2.1 hdg hl hn rfl (fun ls1 hl1 => kk H locs ls1 hP hD hS (lv_sub hl1 ks hl9))
theorem z_astore_n (C : zK sa D cl tys A p s m args meth c cc nL own Ts ret) {k : Fin 4} {i : Nat} {x : Nat} (hdg : decode cc pc = .ok (.astore_n k, 1)) (hi : (k : Nat) = i) (hn : i < nL) (lv' : List (Nat × Value)) (ks : List Nat) (hl9 : lv_pick ((i, Value.ref x) :: lv.filter (fun q => !(q.1 == i) && !(q.1 + 1 == i && q.2.category == 2))) ks = lv') (kk : zW p l e R s m args below meth c Q D cl A nL cells slots ws lv' (pc + 1) st) : zW p l e R s m args below meth c Q D cl A nL cells slots ws lv pc (.ref x :: st) :=
  fun H locs ls hP hD hS hl => lv_astore_n C.1 C.2.1 hdg hi hl hn rfl (fun ls1 hl1 => kk H locs ls1 hP hD hS (lv_sub hl1 ks hl9))
theorem z_astore (C : zK sa D cl tys A p s m args meth c cc nL own Ts ret) {i : Nat} {x : Nat} (hdg : decode cc pc = .ok (.astore i, 2)) (hn : i < nL) (lv' : List (Nat × Value)) (ks : List Nat) (hl9 : lv_pick ((i, Value.ref x) :: lv.filter (fun q => !(q.1 == i) && !(q.1 + 1 == i && q.2.category == 2))) ks = lv') (kk : zW p l e R s m args below meth c Q D cl A nL cells slots ws lv' (pc + 2) st) : zW p l e R s m args below meth c Q D cl A nL cells slots ws lv pc (.ref x :: st) :=
  fun H locs ls hP hD hS hl => lv_astore C.1 C.2.1 hdg hl hn rfl (fun ls1 hl1 => kk H locs ls1 hP hD hS (lv_sub hl1 ks hl9))
theorem z_lstore_n (C : zK sa D cl tys A p s m args meth c cc nL own Ts ret) {k : Fin 4} {i : Nat} {x : Int64} (hdg : decode cc pc = .ok (.lstore_n k, 1)) (hi : (k : Nat) = i) (hn : i + 1 < nL) (lv' : List (Nat × Value)) (ks : List Nat) (hl9 : lv_pick ((i, Value.long x) :: lv.filter (fun q => !(q.1 == i) && (!(q.1 == i + 1) && !(q.1 + 1 == i && q.2.category == 2)))) ks = lv') (kk : zW p l e R s m args below meth c Q D cl A nL cells slots ws lv' (pc + 1) st) : zW p l e R s m args below meth c Q D cl A nL cells slots ws lv pc (.long x :: st) :=
  fun H locs ls hP hD hS hl => lv_lstore_n C.1 C.2.1 hdg hi hl hn rfl (fun ls1 hl1 => kk H locs ls1 hP hD hS (lv_sub hl1 ks hl9))
theorem z_lstore (C : zK sa D cl tys A p s m args meth c cc nL own Ts ret) {i : Nat} {x : Int64} (hdg : decode cc pc = .ok (.lstore i, 2)) (hn : i + 1 < nL) (lv' : List (Nat × Value)) (ks : List Nat) (hl9 : lv_pick ((i, Value.long x) :: lv.filter (fun q => !(q.1 == i) && (!(q.1 == i + 1) && !(q.1 + 1 == i && q.2.category == 2)))) ks = lv') (kk : zW p l e R s m args below meth c Q D cl A nL cells slots ws lv' (pc + 2) st) : zW p l e R s m args below meth c Q D cl A nL cells slots ws lv pc (.long x :: st) :=
  fun H locs ls hP hD hS hl => lv_lstore C.1 C.2.1 hdg hl hn rfl (fun ls1 hl1 => kk H locs ls1 hP hD hS (lv_sub hl1 ks hl9))
theorem z_iinc (C : zK sa D cl tys A p s m args meth c cc nL own Ts ret) {i : Nat} {n : Int} {x v : Int32} (hdg : decode cc pc = .ok (.iinc i n, 3)) (j : Nat) (hj : lv[j]? = some (i, .int x)) (hv : x + Int32.ofInt n = v) (hn : i < nL) (lv' : List (Nat × Value)) (ks : List Nat) (hl9 : lv_pick ((i, Value.int v) :: lv.filter (fun q => !(q.1 == i) && !(q.1 + 1 == i && q.2.category == 2))) ks = lv') (kk : zW p l e R s m args below meth c Q D cl A nL cells slots ws lv' (pc + 3) st) : zW p l e R s m args below meth c Q D cl A nL cells slots ws lv pc st :=
  fun H locs ls hP hD hS hl => lv_iinc C.1 C.2.1 hdg hl hj hv hn rfl (fun ls1 hl1 => kk H locs ls1 hP hD hS (lv_sub hl1 ks hl9))
theorem z_iadd (C : zK sa D cl tys A p s m args meth c cc nL own Ts ret) {x y v : Int32} (hdg : decode cc pc = .ok (.iadd, 1)) (hv : x + y = v) (kk : zW p l e R s m args below meth c Q D cl A nL cells slots ws lv (pc + 1) (.int v :: st)) : zW p l e R s m args below meth c Q D cl A nL cells slots ws lv pc (.int y :: .int x :: st) :=
  fun H locs ls hP hD hS hl => lv_iadd C.1 C.2.1 hdg (by rw [hv]; exact kk H locs ls hP hD hS hl)
theorem z_isub (C : zK sa D cl tys A p s m args meth c cc nL own Ts ret) {x y v : Int32} (hdg : decode cc pc = .ok (.isub, 1)) (hv : x - y = v) (kk : zW p l e R s m args below meth c Q D cl A nL cells slots ws lv (pc + 1) (.int v :: st)) : zW p l e R s m args below meth c Q D cl A nL cells slots ws lv pc (.int y :: .int x :: st) :=
  fun H locs ls hP hD hS hl => lv_isub C.1 C.2.1 hdg (by rw [hv]; exact kk H locs ls hP hD hS hl)
theorem z_imul (C : zK sa D cl tys A p s m args meth c cc nL own Ts ret) {x y v : Int32} (hdg : decode cc pc = .ok (.imul, 1)) (hv : x * y = v) (kk : zW p l e R s m args below meth c Q D cl A nL cells slots ws lv (pc + 1) (.int v :: st)) : zW p l e R s m args below meth c Q D cl A nL cells slots ws lv pc (.int y :: .int x :: st) :=
  fun H locs ls hP hD hS hl => lv_imul C.1 C.2.1 hdg (by rw [hv]; exact kk H locs ls hP hD hS hl)
theorem z_iand (C : zK sa D cl tys A p s m args meth c cc nL own Ts ret) {x y v : Int32} (hdg : decode cc pc = .ok (.iand, 1)) (hv : x &&& y = v) (kk : zW p l e R s m args below meth c Q D cl A nL cells slots ws lv (pc + 1) (.int v :: st)) : zW p l e R s m args below meth c Q D cl A nL cells slots ws lv pc (.int y :: .int x :: st) :=
  fun H locs ls hP hD hS hl => lv_iand C.1 C.2.1 hdg (by rw [hv]; exact kk H locs ls hP hD hS hl)
theorem z_ior (C : zK sa D cl tys A p s m args meth c cc nL own Ts ret) {x y v : Int32} (hdg : decode cc pc = .ok (.ior, 1)) (hv : x ||| y = v) (kk : zW p l e R s m args below meth c Q D cl A nL cells slots ws lv (pc + 1) (.int v :: st)) : zW p l e R s m args below meth c Q D cl A nL cells slots ws lv pc (.int y :: .int x :: st) :=
  fun H locs ls hP hD hS hl => lv_ior C.1 C.2.1 hdg (by rw [hv]; exact kk H locs ls hP hD hS hl)
theorem z_idiv (C : zK sa D cl tys A p s m args meth c cc nL own Ts ret) {x y v : Int32} (hdg : decode cc pc = .ok (.idiv, 1)) (hne : ¬ y = 0) (hv : x / y = v) (kk : zW p l e R s m args below meth c Q D cl A nL cells slots ws lv (pc + 1) (.int v :: st)) : zW p l e R s m args below meth c Q D cl A nL cells slots ws lv pc (.int y :: .int x :: st) :=
  fun H locs ls hP hD hS hl => lv_idiv C.1 C.2.1 hdg hne (by rw [hv]; exact kk H locs ls hP hD hS hl)
theorem z_ishl (C : zK sa D cl tys A p s m args meth c cc nL own Ts ret) {x y v : Int32} (hdg : decode cc pc = .ok (.ishl, 1)) (hv : x <<< (y &&& 31) = v) (kk : zW p l e R s m args below meth c Q D cl A nL cells slots ws lv (pc + 1) (.int v :: st)) : zW p l e R s m args below meth c Q D cl A nL cells slots ws lv pc (.int y :: .int x :: st) :=
  fun H locs ls hP hD hS hl => lv_ishl C.1 C.2.1 hdg (by rw [hv]; exact kk H locs ls hP hD hS hl)
theorem z_ishr (C : zK sa D cl tys A p s m args meth c cc nL own Ts ret) {x y v : Int32} (hdg : decode cc pc = .ok (.ishr, 1)) (hv : x >>> (y &&& 31) = v) (kk : zW p l e R s m args below meth c Q D cl A nL cells slots ws lv (pc + 1) (.int v :: st)) : zW p l e R s m args below meth c Q D cl A nL cells slots ws lv pc (.int y :: .int x :: st) :=
  fun H locs ls hP hD hS hl => lv_ishr C.1 C.2.1 hdg (by rw [hv]; exact kk H locs ls hP hD hS hl)
theorem z_lmul (C : zK sa D cl tys A p s m args meth c cc nL own Ts ret) {x y v : Int64} (hdg : decode cc pc = .ok (.lmul, 1)) (hv : x * y = v) (kk : zW p l e R s m args below meth c Q D cl A nL cells slots ws lv (pc + 1) (.long v :: st)) : zW p l e R s m args below meth c Q D cl A nL cells slots ws lv pc (.long y :: .long x :: st) :=
  fun H locs ls hP hD hS hl => lv_lmul C.1 C.2.1 hdg (by rw [hv]; exact kk H locs ls hP hD hS hl)
theorem z_ldiv (C : zK sa D cl tys A p s m args meth c cc nL own Ts ret) {x y v : Int64} (hdg : decode cc pc = .ok (.ldiv, 1)) (hne : ¬ y = 0) (hv : x / y = v) (kk : zW p l e R s m args below meth c Q D cl A nL cells slots ws lv (pc + 1) (.long v :: st)) : zW p l e R s m args below meth c Q D cl A nL cells slots ws lv pc (.long y :: .long x :: st) :=
  fun H locs ls hP hD hS hl => lv_ldiv C.1 C.2.1 hdg hne (by rw [hv]; exact kk H locs ls hP hD hS hl)
theorem z_i2l (C : zK sa D cl tys A p s m args meth c cc nL own Ts ret) {x : Int32} {v : Int64} (hdg : decode cc pc = .ok (.i2l, 1)) (hv : x.toInt64 = v) (kk : zW p l e R s m args below meth c Q D cl A nL cells slots ws lv (pc + 1) (.long v :: st)) : zW p l e R s m args below meth c Q D cl A nL cells slots ws lv pc (.int x :: st) :=
  fun H locs ls hP hD hS hl => lv_i2l C.1 C.2.1 hdg hv (kk H locs ls hP hD hS hl)
theorem z_dup (C : zK sa D cl tys A p s m args meth c cc nL own Ts ret) {va : Value} (hdg : decode cc pc = .ok (.dup, 1)) (hva : va.category = 1) (kk : zW p l e R s m args below meth c Q D cl A nL cells slots ws lv (pc + 1) (va :: va :: st)) : zW p l e R s m args below meth c Q D cl A nL cells slots ws lv pc (va :: st) :=
  fun H locs ls hP hD hS hl => lv_dup C.1 C.2.1 hdg hva (kk H locs ls hP hD hS hl)
theorem z_dup2 (C : zK sa D cl tys A p s m args meth c cc nL own Ts ret) {va vb : Value} (hdg : decode cc pc = .ok (.dup2, 1)) (hva : va.category = 1) (hvb : vb.category = 1) (kk : zW p l e R s m args below meth c Q D cl A nL cells slots ws lv (pc + 1) (va :: vb :: va :: vb :: st)) : zW p l e R s m args below meth c Q D cl A nL cells slots ws lv pc (va :: vb :: st) :=
  fun H locs ls hP hD hS hl => lv_dup2_11 C.1 C.2.1 hdg hva hvb (kk H locs ls hP hD hS hl)
theorem z_if_eq (C : zK sa D cl tys A p s m args meth c cc nL own Ts ret) {x : Int32} {off : Int} {tgt : Nat} (hdg : decode cc pc = .ok (.ifCond .eq off, 3)) (ht : (pc : Int) + off = (tgt : Int)) (kt : x = 0 → zW p l e R s m args below meth c Q D cl A nL cells slots ws lv tgt st) (kf : ¬ x = 0 → zW p l e R s m args below meth c Q D cl A nL cells slots ws lv (pc + 3) st) : zW p l e R s m args below meth c Q D cl A nL cells slots ws lv pc (.int x :: st) :=
  fun H locs ls hP hD hS hl => lv_if_eq C.1 C.2.1 hdg ht (fun q => kt q H locs ls hP hD hS hl) (fun q => kf q H locs ls hP hD hS hl)
theorem z_icmp_eq (C : zK sa D cl tys A p s m args meth c cc nL own Ts ret) {x y : Int32} {off : Int} {tgt : Nat} (hdg : decode cc pc = .ok (.if_icmp .eq off, 3)) (ht : (pc : Int) + off = (tgt : Int)) (kt : x = y → zW p l e R s m args below meth c Q D cl A nL cells slots ws lv tgt st) (kf : ¬ x = y → zW p l e R s m args below meth c Q D cl A nL cells slots ws lv (pc + 3) st) : zW p l e R s m args below meth c Q D cl A nL cells slots ws lv pc (.int y :: .int x :: st) :=
  fun H locs ls hP hD hS hl => lv_icmp_eq C.1 C.2.1 hdg ht (fun q => kt q H locs ls hP hD hS hl) (fun q => kf q H locs ls hP hD hS hl)
theorem z_if_ne (C : zK sa D cl tys A p s m args meth c cc nL own Ts ret) {x : Int32} {off : Int} {tgt : Nat} (hdg : decode cc pc = .ok (.ifCond .ne off, 3)) (ht : (pc : Int) + off = (tgt : Int)) (kt : ¬ x = 0 → zW p l e R s m args below meth c Q D cl A nL cells slots ws lv tgt st) (kf : x = 0 → zW p l e R s m args below meth c Q D cl A nL cells slots ws lv (pc + 3) st) : zW p l e R s m args below meth c Q D cl A nL cells slots ws lv pc (.int x :: st) :=
  fun H locs ls hP hD hS hl => lv_if_ne C.1 C.2.1 hdg ht (fun q => kt q H locs ls hP hD hS hl) (fun q => kf q H locs ls hP hD hS hl)
theorem z_icmp_ne (C : zK sa D cl tys A p s m args meth c cc nL own Ts ret) {x y : Int32} {off : Int} {tgt : Nat} (hdg : decode cc pc = .ok (.if_icmp .ne off, 3)) (ht : (pc : Int) + off = (tgt : Int)) (kt : ¬ x = y → zW p l e R s m args below meth c Q D cl A nL cells slots ws lv tgt st) (kf : x = y → zW p l e R s m args below meth c Q D cl A nL cells slots ws lv (pc + 3) st) : zW p l e R s m args below meth c Q D cl A nL cells slots ws lv pc (.int y :: .int x :: st) :=
  fun H locs ls hP hD hS hl => lv_icmp_ne C.1 C.2.1 hdg ht (fun q => kt q H locs ls hP hD hS hl) (fun q => kf q H locs ls hP hD hS hl)
theorem z_if_lt (C : zK sa D cl tys A p s m args meth c cc nL own Ts ret) {x : Int32} {off : Int} {tgt : Nat} (hdg : decode cc pc = .ok (.ifCond .lt off, 3)) (ht : (pc : Int) + off = (tgt : Int)) (kt : x < 0 → zW p l e R s m args below meth c Q D cl A nL cells slots ws lv tgt st) (kf : ¬ x < 0 → zW p l e R s m args below meth c Q D cl A nL cells slots ws lv (pc + 3) st) : zW p l e R s m args below meth c Q D cl A nL cells slots ws lv pc (.int x :: st) :=
  fun H locs ls hP hD hS hl => lv_if_lt C.1 C.2.1 hdg ht (fun q => kt q H locs ls hP hD hS hl) (fun q => kf q H locs ls hP hD hS hl)
theorem z_icmp_lt (C : zK sa D cl tys A p s m args meth c cc nL own Ts ret) {x y : Int32} {off : Int} {tgt : Nat} (hdg : decode cc pc = .ok (.if_icmp .lt off, 3)) (ht : (pc : Int) + off = (tgt : Int)) (kt : x < y → zW p l e R s m args below meth c Q D cl A nL cells slots ws lv tgt st) (kf : ¬ x < y → zW p l e R s m args below meth c Q D cl A nL cells slots ws lv (pc + 3) st) : zW p l e R s m args below meth c Q D cl A nL cells slots ws lv pc (.int y :: .int x :: st) :=
  fun H locs ls hP hD hS hl => lv_icmp_lt C.1 C.2.1 hdg ht (fun q => kt q H locs ls hP hD hS hl) (fun q => kf q H locs ls hP hD hS hl)
theorem z_if_ge (C : zK sa D cl tys A p s m args meth c cc nL own Ts ret) {x : Int32} {off : Int} {tgt : Nat} (hdg : decode cc pc = .ok (.ifCond .ge off, 3)) (ht : (pc : Int) + off = (tgt : Int)) (kt : 0 ≤ x → zW p l e R s m args below meth c Q D cl A nL cells slots ws lv tgt st) (kf : ¬ 0 ≤ x → zW p l e R s m args below meth c Q D cl A nL cells slots ws lv (pc + 3) st) : zW p l e R s m args below meth c Q D cl A nL cells slots ws lv pc (.int x :: st) :=
  fun H locs ls hP hD hS hl => lv_if_ge C.1 C.2.1 hdg ht (fun q => kt q H locs ls hP hD hS hl) (fun q => kf q H locs ls hP hD hS hl)
theorem z_icmp_ge (C : zK sa D cl tys A p s m args meth c cc nL own Ts ret) {x y : Int32} {off : Int} {tgt : Nat} (hdg : decode cc pc = .ok (.if_icmp .ge off, 3)) (ht : (pc : Int) + off = (tgt : Int)) (kt : y ≤ x → zW p l e R s m args below meth c Q D cl A nL cells slots ws lv tgt st) (kf : ¬ y ≤ x → zW p l e R s m args below meth c Q D cl A nL cells slots ws lv (pc + 3) st) : zW p l e R s m args below meth c Q D cl A nL cells slots ws lv pc (.int y :: .int x :: st) :=
  fun H locs ls hP hD hS hl => lv_icmp_ge C.1 C.2.1 hdg ht (fun q => kt q H locs ls hP hD hS hl) (fun q => kf q H locs ls hP hD hS hl)
theorem z_if_gt (C : zK sa D cl tys A p s m args meth c cc nL own Ts ret) {x : Int32} {off : Int} {tgt : Nat} (hdg : decode cc pc = .ok (.ifCond .gt off, 3)) (ht : (pc : Int) + off = (tgt : Int)) (kt : 0 < x → zW p l e R s m args below meth c Q D cl A nL cells slots ws lv tgt st) (kf : ¬ 0 < x → zW p l e R s m args below meth c Q D cl A nL cells slots ws lv (pc + 3) st) : zW p l e R s m args below meth c Q D cl A nL cells slots ws lv pc (.int x :: st) :=
  fun H locs ls hP hD hS hl => lv_if_gt C.1 C.2.1 hdg ht (fun q => kt q H locs ls hP hD hS hl) (fun q => kf q H locs ls hP hD hS hl)
theorem z_icmp_gt (C : zK sa D cl tys A p s m args meth c cc nL own Ts ret) {x y : Int32} {off : Int} {tgt : Nat} (hdg : decode cc pc = .ok (.if_icmp .gt off, 3)) (ht : (pc : Int) + off = (tgt : Int)) (kt : y < x → zW p l e R s m args below meth c Q D cl A nL cells slots ws lv tgt st) (kf : ¬ y < x → zW p l e R s m args below meth c Q D cl A nL cells slots ws lv (pc + 3) st) : zW p l e R s m args below meth c Q D cl A nL cells slots ws lv pc (.int y :: .int x :: st) :=
  fun H locs ls hP hD hS hl => lv_icmp_gt C.1 C.2.1 hdg ht (fun q => kt q H locs ls hP hD hS hl) (fun q => kf q H locs ls hP hD hS hl)
theorem z_if_le (C : zK sa D cl tys A p s m args meth c cc nL own Ts ret) {x : Int32} {off : Int} {tgt : Nat} (hdg : decode cc pc = .ok (.ifCond .le off, 3)) (ht : (pc : Int) + off = (tgt : Int)) (kt : x ≤ 0 → zW p l e R s m args below meth c Q D cl A nL cells slots ws lv tgt st) (kf : ¬ x ≤ 0 → zW p l e R s m args below meth c Q D cl A nL cells slots ws lv (pc + 3) st) : zW p l e R s m args below meth c Q D cl A nL cells slots ws lv pc (.int x :: st) :=
  fun H locs ls hP hD hS hl => lv_if_le C.1 C.2.1 hdg ht (fun q => kt q H locs ls hP hD hS hl) (fun q => kf q H locs ls hP hD hS hl)
theorem z_icmp_le (C : zK sa D cl tys A p s m args meth c cc nL own Ts ret) {x y : Int32} {off : Int} {tgt : Nat} (hdg : decode cc pc = .ok (.if_icmp .le off, 3)) (ht : (pc : Int) + off = (tgt : Int)) (kt : x ≤ y → zW p l e R s m args below meth c Q D cl A nL cells slots ws lv tgt st) (kf : ¬ x ≤ y → zW p l e R s m args below meth c Q D cl A nL cells slots ws lv (pc + 3) st) : zW p l e R s m args below meth c Q D cl A nL cells slots ws lv pc (.int y :: .int x :: st) :=
  fun H locs ls hP hD hS hl => lv_icmp_le C.1 C.2.1 hdg ht (fun q => kt q H locs ls hP hD hS hl) (fun q => kf q H locs ls hP hD hS hl)
theorem z_goto (C : zK sa D cl tys A p s m args meth c cc nL own Ts ret) {off : Int} {tgt : Nat} (hdg : decode cc pc = .ok (.goto off, 3)) (ht : (pc : Int) + off = (tgt : Int)) (kk : zW p l e R s m args below meth c Q D cl A nL cells slots ws lv tgt st) : zW p l e R s m args below meth c Q D cl A nL cells slots ws lv pc st :=
  fun H locs ls hP hD hS hl => lv_goto C.1 C.2.1 hdg ht (kk H locs ls hP hD hS hl)
theorem z_case (b : Prop) (kt : b → zW p l e R s m args below meth c Q D cl A nL cells slots ws lv pc st) (kf : ¬ b → zW p l e R s m args below meth c Q D cl A nL cells slots ws lv pc st) : zW p l e R s m args below meth c Q D cl A nL cells slots ws lv pc st := by
  by_cases h : b
  · exact kt h
  · exact kf h
theorem z_get (C : zK sa D cl tys A p s m args meth c cc nL own Ts ret) {ref C9 : String} {T : u_T} {N ci index : Nat} {a : Nat} (q0 : Nat) {fs : List Value} (he : ws[q0]? = some (a, .inr (ci, fs))) (hin : ∀ w ∈ u_ws C9 T N, w ∈ Ts) (hc : cl[ci]? = some (C9, T, N)) (k : Nat) (hk : k < N) (hlk : Cond.fieldLink own index ref (T k).2.1 (T k).2.2.1 ∈ Ts) (hrf : (T k).1 = ref) {v : Value} (hv : fs[k]? = some v) (hdg : decode cc pc = .ok (.getfield index, 3)) (kk : zW p l e R s m args below meth c Q D cl A nL cells slots ws lv (pc + 3) (v :: st)) : zW p l e R s m args below meth c Q D cl A nL cells slots ws lv pc (.ref a :: st) :=
  fun H locs ls hP hD hS hl => va_get C.1 C.2.1 C.2.2.2.2.1 hin C.2.2.2.1 C.2.2.2.2.2.1 hP q0 he hc k hk (C.2.2.2.2.1 _ hlk) (fun _ h9 => hrf ▸ h9) hv hdg (kk H locs ls hP hD hS hl)
theorem z_put (C : zK sa D cl tys A p s m args meth c cc nL own Ts ret) {ref C9 : String} {T : u_T} {N ci index : Nat} {a : Nat} (q0 : Nat) {fs : List Value} (he : ws[q0]? = some (a, .inr (ci, fs))) (hin : ∀ w ∈ u_ws C9 T N, w ∈ Ts) (hc : cl[ci]? = some (C9, T, N)) (k : Nat) (hk : k < N) (hlk : Cond.fieldLink own index ref (T k).2.1 (T k).2.2.1 ∈ Ts) (hrf : (T k).1 = ref) (ty0 : Nat → FieldType) (hty : ∀ k, k < N → parseFieldDescriptor (T k).2.2.1 = some (ty0 k)) (hnm : ∀ a, a < N → ∀ b, b < N → a ≠ b → (T a).2.1 ≠ (T b).2.1) (hfin : (T k).2.2.2 = false) {ty : FieldType} {v : Value} (hd : parseFieldDescriptor (T k).2.2.1 = some ty) (hn : narrow ty v = v) (hfit : fits ty v = true) (hlen : k < fs.length) (hdg : decode cc pc = .ok (.putfield index, 3)) (ws' : va_W) (hw : ws.set q0 (a, .inr (ci, fs.set k v)) = ws') (kk : zW p l e R s m args below meth c Q D cl A nL cells slots ws' lv (pc + 3) st) : zW p l e R s m args below meth c Q D cl A nL cells slots ws lv pc (v :: .ref a :: st) :=
  fun H locs ls hP hD hS hl => va_put C.1 C.2.1 C.2.2.2.2.1 hin ty0 hty hnm C.2.2.2.1 C.2.2.2.2.2.1 hP hD hS q0 he hc k hk (C.2.2.2.2.1 _ hlk) (fun _ h9 => hrf ▸ h9) hfin hd hn hfit hlen hdg (fun H1 locs1 hP1 hD1 hS1 => kk H1 locs1 ls (hw ▸ hP1) (hw ▸ hD1) hS1 hl)
theorem z_putF (C : zK sa D cl tys A p s m args meth c cc nL own Ts ret) {ref C9 : String} {T : u_T} {N ci index : Nat} {a : Nat} (q0 : Nat) {fs : List Value} (he : ws[q0]? = some (a, .inr (ci, fs))) (hin : ∀ w ∈ u_ws C9 T N, w ∈ Ts) (hc : cl[ci]? = some (C9, T, N)) (k : Nat) (hk : k < N) (hlk : Cond.fieldLink own index ref (T k).2.1 (T k).2.2.1 ∈ Ts) (hrf : (T k).1 = ref) (ty0 : Nat → FieldType) (hty : ∀ k, k < N → parseFieldDescriptor (T k).2.2.1 = some (ty0 k)) (hnm : ∀ a, a < N → ∀ b, b < N → a ≠ b → (T a).2.1 ≠ (T b).2.1) (hfin : (T k).2.2.2 = true) (hin2 : meth.name = "<init>") (hdecl : (T k).1 = own) {ty : FieldType} {v : Value} (hd : parseFieldDescriptor (T k).2.2.1 = some ty) (hn : narrow ty v = v) (hfit : fits ty v = true) (hlen : k < fs.length) (hdg : decode cc pc = .ok (.putfield index, 3)) (ws' : va_W) (hw : ws.set q0 (a, .inr (ci, fs.set k v)) = ws') (kk : zW p l e R s m args below meth c Q D cl A nL cells slots ws' lv (pc + 3) st) : zW p l e R s m args below meth c Q D cl A nL cells slots ws lv pc (v :: .ref a :: st) :=
  fun H locs ls hP hD hS hl => va_putF C.1 C.2.1 C.2.2.2.2.1 hin ty0 hty hnm C.2.2.2.1 C.2.2.2.2.2.1 hP hD hS q0 he hc k hk (C.2.2.2.2.1 _ hlk) (fun _ h9 => hrf ▸ h9) hfin hin2 hdecl hd hn hfit hlen hdg (fun H1 locs1 hP1 hD1 hS1 => kk H1 locs1 ls (hw ▸ hP1) (hw ▸ hD1) hS1 hl)
theorem z_iald (C : zK sa D cl tys A p s m args meth c cc nL own Ts ret) {a : Nat} (q0 t0 : Nat) {cA : ClassId} {n : Nat} {f : Nat → Int32} (ha : ws[q0]? = some (a, .inl (cA, n, .inl f))) (ht : tys[t0]? = some (cA, .int)) {i : Int32} (k : Nat) (hk : i.toNatClampNeg = k) (hin : vp_in i n) (hdg : decode cc pc = .ok (.iaload, 1)) (kk : zW p l e R s m args below meth c Q D cl A nL cells slots ws lv (pc + 1) (.int (f k) :: st)) : zW p l e R s m args below meth c Q D cl A nL cells slots ws lv pc (.int i :: .ref a :: st) :=
  by
  subst hk
  exact fun H locs ls hP hD hS hl => va_iald C.1 C.2.1 C.2.2.2.2.2.1 hP q0 t0 ha ht hin hdg (kk H locs ls hP hD hS hl)
theorem z_zald (C : zK sa D cl tys A p s m args meth c cc nL own Ts ret) {a : Nat} (q0 t0 : Nat) {cA : ClassId} {n : Nat} {f : Nat → Int32} (ha : ws[q0]? = some (a, .inl (cA, n, .inl f))) (ht : tys[t0]? = some (cA, .boolean)) {i : Int32} (k : Nat) (hk : i.toNatClampNeg = k) (hin : vp_in i n) (hdg : decode cc pc = .ok (.baload, 1)) (kk : zW p l e R s m args below meth c Q D cl A nL cells slots ws lv (pc + 1) (.int (f k) :: st)) : zW p l e R s m args below meth c Q D cl A nL cells slots ws lv pc (.int i :: .ref a :: st) :=
  by
  subst hk
  exact fun H locs ls hP hD hS hl => va_zald C.1 C.2.1 C.2.2.2.2.2.1 hP q0 t0 ha ht hin hdg (kk H locs ls hP hD hS hl)
theorem z_lald (C : zK sa D cl tys A p s m args meth c cc nL own Ts ret) {a : Nat} (q0 t0 : Nat) {cA : ClassId} {n : Nat} {f : Nat → Int64} (ha : ws[q0]? = some (a, .inl (cA, n, .inr (.inl f)))) (ht : tys[t0]? = some (cA, .long)) {i : Int32} (k : Nat) (hk : i.toNatClampNeg = k) (hin : vp_in i n) (hdg : decode cc pc = .ok (.laload, 1)) (kk : zW p l e R s m args below meth c Q D cl A nL cells slots ws lv (pc + 1) (.long (f k) :: st)) : zW p l e R s m args below meth c Q D cl A nL cells slots ws lv pc (.int i :: .ref a :: st) :=
  by
  subst hk
  exact fun H locs ls hP hD hS hl => va_lald C.1 C.2.1 C.2.2.2.2.2.1 hP q0 t0 ha ht hin hdg (kk H locs ls hP hD hS hl)
theorem z_iast (C : zK sa D cl tys A p s m args meth c cc nL own Ts ret) {a : Nat} (q0 t0 : Nat) {cA : ClassId} {n : Nat} {f : Nat → Int32} (ha : ws[q0]? = some (a, .inl (cA, n, .inl f))) (ht : tys[t0]? = some (cA, .int)) {i x : Int32} (k : Nat) (hk : i.toNatClampNeg = k) (hin : vp_in i n) (v : Int32) (hv : narrow .int (.int x) = .int v) (hdg : decode cc pc = .ok (.iastore, 1)) (ws' : va_W) (hw : ws.set q0 (a, .inl (cA, n, .inl (upd f k v))) = ws') (kk : zW p l e R s m args below meth c Q D cl A nL cells slots ws' lv (pc + 1) st) : zW p l e R s m args below meth c Q D cl A nL cells slots ws lv pc (.int x :: .int i :: .ref a :: st) :=
  by
  subst hk
  have hv : v = vp_nar .int x := by unfold vp_nar; rw [hv]
  subst hv
  subst hw
  exact fun H locs ls hP hD hS hl => va_iast C.1 C.2.1 C.2.2.2.2.2.1 hP hD hS q0 t0 ha ht hin hdg (fun H1 locs1 hP1 hD1 hS1 => kk H1 locs1 ls hP1 hD1 hS1 hl)
theorem z_zast (C : zK sa D cl tys A p s m args meth c cc nL own Ts ret) {a : Nat} (q0 t0 : Nat) {cA : ClassId} {n : Nat} {f : Nat → Int32} (ha : ws[q0]? = some (a, .inl (cA, n, .inl f))) (ht : tys[t0]? = some (cA, .boolean)) {i x : Int32} (k : Nat) (hk : i.toNatClampNeg = k) (hin : vp_in i n) (v : Int32) (hv : narrow .boolean (.int x) = .int v) (hdg : decode cc pc = .ok (.bastore, 1)) (ws' : va_W) (hw : ws.set q0 (a, .inl (cA, n, .inl (upd f k v))) = ws') (kk : zW p l e R s m args below meth c Q D cl A nL cells slots ws' lv (pc + 1) st) : zW p l e R s m args below meth c Q D cl A nL cells slots ws lv pc (.int x :: .int i :: .ref a :: st) :=
  by
  subst hk
  have hv : v = vp_nar .boolean x := by unfold vp_nar; rw [hv]
  subst hv
  subst hw
  exact fun H locs ls hP hD hS hl => va_zast C.1 C.2.1 C.2.2.2.2.2.1 hP hD hS q0 t0 ha ht hin hdg (fun H1 locs1 hP1 hD1 hS1 => kk H1 locs1 ls hP1 hD1 hS1 hl)
theorem z_last (C : zK sa D cl tys A p s m args meth c cc nL own Ts ret) {a : Nat} (q0 t0 : Nat) {cA : ClassId} {n : Nat} {f : Nat → Int64} (ha : ws[q0]? = some (a, .inl (cA, n, .inr (.inl f)))) (ht : tys[t0]? = some (cA, .long)) {i : Int32} {x : Int64} (k : Nat) (hk : i.toNatClampNeg = k) (hin : vp_in i n) (hdg : decode cc pc = .ok (.lastore, 1)) (ws' : va_W) (hw : ws.set q0 (a, .inl (cA, n, .inr (.inl (vp_updL f k x)))) = ws') (kk : zW p l e R s m args below meth c Q D cl A nL cells slots ws' lv (pc + 1) st) : zW p l e R s m args below meth c Q D cl A nL cells slots ws lv pc (.long x :: .int i :: .ref a :: st) :=
  by
  subst hk
  subst hw
  exact fun H locs ls hP hD hS hl => va_last C.1 C.2.1 C.2.2.2.2.2.1 hP hD hS q0 t0 ha ht hin hdg (fun H1 locs1 hP1 hD1 hS1 => kk H1 locs1 ls hP1 hD1 hS1 hl)
theorem z_mmin (C : zK sa D cl tys A p s m args meth c cc nL own Ts ret) {index : Nat} {x y v : Int32} (h1 : Cond.methodLink own index Lib.Math.min.name ∈ Ts) (h2 : Cond.static Lib.Math.min.name ∈ Ts) (h3 : Cond.initialized "java/lang/Math" ∈ Ts) (h4 : Cond.code Lib.Math.min.name Lib.Math.min.code 2 (some .int) ∈ Ts) (hR : 1 ≤ R.frames ∧ (st.map fun v => v.category).sum + 13 ≤ R.locals ∧ cells ≤ R.cells ∧ slots ≤ R.slots) (hdg : decode cc pc = .ok (.invokestatic index, 3)) (hv : (if y < x then y else x) = v) (kk : zW p l e R s m args below meth c Q D cl A nL cells slots ws lv (pc + 3) (.int v :: st)) : zW p l e R s m args below meth c Q D cl A nL cells slots ws lv pc (.int y :: .int x :: st) :=
  fun H locs ls hP hD hS hl => va_mmin C.1 C.2.1 (by rw [C.2.2.1]; exact hl.1.symm) C.2.2.2.1 (C.2.2.2.2.1 _ h1) (C.2.2.2.2.1 _ h2) (C.2.2.2.2.1 _ h3) (C.2.2.2.2.1 _ h4) hR.1 hR.2.1 hR.2.2.1 hR.2.2.2 hdg (by rw [hv]; exact kk H locs ls hP hD hS hl)
theorem z_mmax (C : zK sa D cl tys A p s m args meth c cc nL own Ts ret) {index : Nat} {x y v : Int32} (h1 : Cond.methodLink own index Lib.Math.max.name ∈ Ts) (h2 : Cond.static Lib.Math.max.name ∈ Ts) (h3 : Cond.initialized "java/lang/Math" ∈ Ts) (h4 : Cond.code Lib.Math.max.name Lib.Math.max.code 2 (some .int) ∈ Ts) (hR : 1 ≤ R.frames ∧ (st.map fun v => v.category).sum + 13 ≤ R.locals ∧ cells ≤ R.cells ∧ slots ≤ R.slots) (hdg : decode cc pc = .ok (.invokestatic index, 3)) (hv : (if x < y then y else x) = v) (kk : zW p l e R s m args below meth c Q D cl A nL cells slots ws lv (pc + 3) (.int v :: st)) : zW p l e R s m args below meth c Q D cl A nL cells slots ws lv pc (.int y :: .int x :: st) :=
  fun H locs ls hP hD hS hl => va_mmax C.1 C.2.1 (by rw [C.2.2.1]; exact hl.1.symm) C.2.2.2.1 (C.2.2.2.2.1 _ h1) (C.2.2.2.2.1 _ h2) (C.2.2.2.2.1 _ h3) (C.2.2.2.2.1 _ h4) hR.1 hR.2.1 hR.2.2.1 hR.2.2.2 hdg (by rw [hv]; exact kk H locs ls hP hD hS hl)
theorem z_widen {k n : Nat} (h1 : cells ≤ k) (h2 : slots ≤ n) (kk : zW p l e R s m args below meth c Q D cl A nL k n ws lv pc st) : zW p l e R s m args below meth c Q D cl A nL cells slots ws lv pc st :=
  fun H locs ls hP hD hS hl => W.widen h1 h2 (kk H locs ls hP hD hS hl)
theorem z_perm (ws' : va_W) (ks : List Nat) (hks : ks.map (fun i => ws[i]?) = ws'.map some) (hnk : va_nd ks = true) (kk : zW p l e R s m args below meth c Q D cl A nL cells slots ws' lv pc st) : zW p l e R s m args below meth c Q D cl A nL cells slots ws lv pc st :=
  fun H locs ls hP hD hS hl => kk H locs ls (hP.sub ks (zfm hks)) (hD.sub ks hnk hks) hS hl
theorem z_lv (lv' : List (Nat × Value)) (ks : List Nat) (hks : lv_pick lv ks = lv') (kk : zW p l e R s m args below meth c Q D cl A nL cells slots ws lv' pc st) : zW p l e R s m args below meth c Q D cl A nL cells slots ws lv pc st :=
  fun H locs ls hP hD hS hl => kk H locs ls hP hD hS (lv_sub hl ks hks)
theorem z_eq {pc' : Nat} (h : pc = pc') (kk : zW p l e R s m args below meth c Q D cl A nL cells slots ws lv pc' st) : zW p l e R s m args below meth c Q D cl A nL cells slots ws lv pc st := h ▸ kk
/-- how a method starts: its arguments, its world, and what zG says -/
def zPc (sa : Nat → Nat) (D : va_G) (cl : List vw_C) (tys : List (ClassId × FieldType)) (av : List Value) (wc : va_W) (sz : Nat) : Array Value → State → Prop := va_Pc av (fun U => U.heap.size = sz ∧ va_P D cl wc U.heap ∧ va_K D cl tys U ∧ va_D (fun _ => True) wc ∧ zG sa (va_A wc sz) U U.heap)
def zB (D : va_G) (cl : List vw_C) (tys : List (ClassId × FieldType)) (wc : va_W) (sz : Nat) (w1 : va_W) (t : State) : Prop := va_P D cl w1 t.heap ∧ va_K D cl tys t ∧ va_D (va_A wc sz) w1
/-- returns an int (or a boolean) -/
def zMi {T : Type} (sa : Nat → Nat) (D : va_G) (cl : List vw_C) (tys : List (ClassId × FieldType)) (l : Launch) (y : MethodName) (wsy : List Cond) (rm : Room) (av : List Value) (wc : va_W) (post : Int32 → T → Prop) (w1 : T → va_W) (mc ms : Nat) : Prop :=
  ∀ sz : Nat, Met l y wsy rm (zPc sa D cl tys av wc sz) (va_Qi post (fun u t => zB D cl tys wc sz (w1 u) t) (va_A wc sz)) mc ms (va_A wc sz)
/-- returns nothing -/
def zMv {T : Type} (sa : Nat → Nat) (D : va_G) (cl : List vw_C) (tys : List (ClassId × FieldType)) (l : Launch) (y : MethodName) (wsy : List Cond) (rm : Room) (av : List Value) (wc : va_W) (post : T → Prop) (w1 : T → va_W) (mc ms : Nat) : Prop :=
  ∀ sz : Nat, Met l y wsy rm (zPc sa D cl tys av wc sz) (va_Qv post (fun u t => zB D cl tys wc sz (w1 u) t) (va_A wc sz)) mc ms (va_A wc sz)
/-- throws an E, the world as it was -/
def zXC (D : va_G) (cl : List vw_C) (tys : List (ClassId × FieldType)) (E : String) (wc : va_W) (sz : Nat) : String → State → State → Prop := vx_X (S := Unit) (fun _ => True) (fun E1 _ t => E1 = E ∧ zB D cl tys wc sz wc t) (va_A wc sz)
def zX (sa : Nat → Nat) (D : va_G) (cl : List vw_C) (tys : List (ClassId × FieldType)) (l : Launch) (y : MethodName) (wsy : List Cond) (rm : Room) (av : List Value) (wc : va_W) (E : String) (mc ms : Nat) : Prop :=
  ∀ sz : Nat, vx_Met l y wsy rm (zPc sa D cl tys av wc sz) (fun _ _ _ _ => False) (zXC D cl tys E wc sz) mc ms (va_A wc sz)
theorem zPc.blind {sa : Nat → Nat} {D : va_G} {cl : List vw_C} {tys : List (ClassId × FieldType)} {av : List Value} {wc : va_W} {sz : Nat} : FrameBlind (zPc sa D cl tys av wc sz) := fun a U g mk q => by
  obtain ⟨q0, q1, qP, qK, qD, qG⟩ := q
  exact ⟨q0, q1, qP, va_K.moved (u := U) (U := U.calling g mk a) (Vm.Alike.refl U.vm) qK, qD, zG.go (U := U.calling g mk a) (State.WarmedH.refl U) qG (fun _ _ _ => rfl) (fun _ h => h)⟩
theorem zPc.at_ (C : zK sa D cl tys A p s m args meth c cc nL own Ts ret) {H : Heap} {locs : List Loc} {av : List Value} {wc : va_W} (hP : va_P D cl wc H) (hD : va_D A wc) (hS : va_S A s.heap H locs) : ∀ U : State, U.heap = H → s.WarmedH U.vm → zPc sa D cl tys av wc H.size av.toArray U := by
  intro U hU hW
  subst hU
  refine ⟨rfl, rfl, hP, va_K.moved hW.alike C.2.2.2.2.2.1, hD.weaken (fun _ _ _ _ => trivial), zG.go hW C.2.2.2.2.2.2.2.1 hS.2.1 (fun q h => ?_)⟩
  rcases h with ⟨k, e, h⟩ | h
  · exact hD.2 k (q, e) h
  · exact C.2.2.2.2.2.2.1 q (Nat.le_trans hS.1 h)
theorem zPc.free (C : zK sa D cl tys A p s m args meth c cc nL own Ts ret) {H : Heap} {locs : List Loc} {wc : va_W} (hD : va_D A wc) (hS : va_S A s.heap H locs) : ∀ q : Nat, va_A wc H.size q → A q := by
  intro q h
  rcases h with ⟨k, e, h⟩ | h
  · exact hD.2 k (q, e) h
  · exact C.2.2.2.2.2.2.1 q (Nat.le_trans hS.1 h)
theorem z_callVi (C : zK sa D cl tys A p s m args meth c cc nL own Ts ret) {T : Type} {y : MethodName} {wsy : List Cond} {rm : Room} {bytes : ByteArray} {maxL mc ms n index : Nat} {ret9 : Option FieldType} {Cn : String} {a : Nat} {As : List Value} {wc : va_W} {post : Int32 → T → Prop} {w1 : T → va_W} {ws' : T → va_W} (hM : zMi sa D cl tys l y wsy rm (.ref a :: As) wc post w1 mc ms) (cw : CallW R s args own Cn index y bytes maxL ret9 wsy rm mc ms n) (q0 : Nat) {ci : Nat} {fs : List Value} {cq : vw_C} (he : ws[q0]? = some (a, .inr (ci, fs))) (hcl : cl[ci]? = some cq) (hcq : cq.1 = Cn) (hsub : ∀ u, zSub ws wc (w1 u) (ws' u)) (hex : zIn ws wc) (hn9 : As.length = n) (hst : (rest.map fun v => v.category).sum ≤ 8) (hf : cells + mc ≤ R.cells ∧ slots + ms ≤ R.slots) (hdg : decode cc pc = .ok (.invokevirtual index, 3)) (kk : ∀ (r : Int32) (u : T), post r u → zW p l e R s m args below meth c Q D cl A nL (cells + mc) (slots + ms) (ws' u) lv (pc + 3) (.int r :: rest)) : zW p l e R s m args below meth c Q D cl A nL cells slots ws lv pc (As.reverse ++ .ref a :: rest) :=
  by
  intro H locs ls hP hD hS hl
  have hsub0 := hex
  have hF : ∀ q : Nat, va_A wc H.size q → A q := zPc.free C (hsub0.2 A hD) hS
  refine va_calli (va_runV (As := As) (rest := rest) ⟨C.1, C.2.1, C.2.2.1, C.2.2.2.1, C.2.2.2.2.1⟩ (hM H.size) cw ⟨zPc.blind, (by rw [← hcq]; exact va_recv C.2.2.2.2.2.1 hP hcl he), zPc.at_ C (hsub0.1 D cl H hP) (hsub0.2 A hD) hS⟩ rfl hn9 hl.1 rfl (lv_room hst) hdg hf) hS (fun q _ h => hF q h) hF (fun r u t H1 locs1 ht hvm hw hB hz1 hk1 hS1 => ?_)
  obtain ⟨hP1, hK1, hD1⟩ := hB
  rw [ht] at hP1
  obtain ⟨g1, g2⟩ := (hsub u).2.2 D cl A H H1 hP hD hF hk1 hP1 hD1
  exact kk r u hw H1 locs1 ls g1 g2 hS1 hl
theorem z_callVv (C : zK sa D cl tys A p s m args meth c cc nL own Ts ret) {T : Type} {y : MethodName} {wsy : List Cond} {rm : Room} {bytes : ByteArray} {maxL mc ms n index : Nat} {ret9 : Option FieldType} {Cn : String} {a : Nat} {As : List Value} {wc : va_W} {post : T → Prop} {w1 : T → va_W} {ws' : T → va_W} (hM : zMv sa D cl tys l y wsy rm (.ref a :: As) wc post w1 mc ms) (cw : CallW R s args own Cn index y bytes maxL ret9 wsy rm mc ms n) (q0 : Nat) {ci : Nat} {fs : List Value} {cq : vw_C} (he : ws[q0]? = some (a, .inr (ci, fs))) (hcl : cl[ci]? = some cq) (hcq : cq.1 = Cn) (hsub : ∀ u, zSub ws wc (w1 u) (ws' u)) (hex : zIn ws wc) (hn9 : As.length = n) (hst : (rest.map fun v => v.category).sum ≤ 8) (hf : cells + mc ≤ R.cells ∧ slots + ms ≤ R.slots) (hdg : decode cc pc = .ok (.invokevirtual index, 3)) (kk : ∀ (u : T), post u → zW p l e R s m args below meth c Q D cl A nL (cells + mc) (slots + ms) (ws' u) lv (pc + 3) rest) : zW p l e R s m args below meth c Q D cl A nL cells slots ws lv pc (As.reverse ++ .ref a :: rest) :=
  by
  intro H locs ls hP hD hS hl
  have hsub0 := hex
  have hF : ∀ q : Nat, va_A wc H.size q → A q := zPc.free C (hsub0.2 A hD) hS
  refine va_callv (va_runV (As := As) (rest := rest) ⟨C.1, C.2.1, C.2.2.1, C.2.2.2.1, C.2.2.2.2.1⟩ (hM H.size) cw ⟨zPc.blind, (by rw [← hcq]; exact va_recv C.2.2.2.2.2.1 hP hcl he), zPc.at_ C (hsub0.1 D cl H hP) (hsub0.2 A hD) hS⟩ rfl hn9 hl.1 rfl (lv_room hst) hdg hf) hS (fun q _ h => hF q h) hF (fun u t H1 locs1 ht hvm hw hB hz1 hk1 hS1 => ?_)
  obtain ⟨hP1, hK1, hD1⟩ := hB
  rw [ht] at hP1
  obtain ⟨g1, g2⟩ := (hsub u).2.2 D cl A H H1 hP hD hF hk1 hP1 hD1
  exact kk u hw H1 locs1 ls g1 g2 hS1 hl
theorem z_callSi (C : zK sa D cl tys A p s m args meth c cc nL own Ts ret) {T : Type} {y : MethodName} {wsy : List Cond} {rm : Room} {bytes : ByteArray} {maxL mc ms n index : Nat} {ret9 : Option FieldType} {Cn : String} {a : Nat} {As : List Value} {wc : va_W} {post : Int32 → T → Prop} {w1 : T → va_W} {ws' : T → va_W} (hM : zMi sa D cl tys l y wsy rm As wc post w1 mc ms) (cw : CallB R s args own index y bytes maxL ret9 wsy rm mc ms n ∧ (Cond.static y).before args s = true) (hsub : ∀ u, zSub ws wc (w1 u) (ws' u)) (hex : zIn ws wc) (hn9 : As.length = n) (hst : (rest.map fun v => v.category).sum ≤ 8) (hf : cells + mc ≤ R.cells ∧ slots + ms ≤ R.slots) (hdg : decode cc pc = .ok (.invokestatic index, 3)) (kk : ∀ (r : Int32) (u : T), post r u → zW p l e R s m args below meth c Q D cl A nL (cells + mc) (slots + ms) (ws' u) lv (pc + 3) (.int r :: rest)) : zW p l e R s m args below meth c Q D cl A nL cells slots ws lv pc (As.reverse ++ rest) :=
  by
  intro H locs ls hP hD hS hl
  have hsub0 := hex
  have hF : ∀ q : Nat, va_A wc H.size q → A q := zPc.free C (hsub0.2 A hD) hS
  refine va_calli (va_runS (As := As) (rest := rest) ⟨C.1, C.2.1, C.2.2.1, C.2.2.2.1, C.2.2.2.2.1⟩ (hM H.size) cw ⟨zPc.blind, zPc.at_ C (hsub0.1 D cl H hP) (hsub0.2 A hD) hS⟩ rfl hn9 hl.1 rfl (lv_room hst) hdg hf) hS (fun q _ h => hF q h) hF (fun r u t H1 locs1 ht hvm hw hB hz1 hk1 hS1 => ?_)
  obtain ⟨hP1, hK1, hD1⟩ := hB
  rw [ht] at hP1
  obtain ⟨g1, g2⟩ := (hsub u).2.2 D cl A H H1 hP hD hF hk1 hP1 hD1
  exact kk r u hw H1 locs1 ls g1 g2 hS1 hl
theorem z_callSv (C : zK sa D cl tys A p s m args meth c cc nL own Ts ret) {T : Type} {y : MethodName} {wsy : List Cond} {rm : Room} {bytes : ByteArray} {maxL mc ms n index : Nat} {ret9 : Option FieldType} {Cn : String} {a : Nat} {As : List Value} {wc : va_W} {post : T → Prop} {w1 : T → va_W} {ws' : T → va_W} (hM : zMv sa D cl tys l y wsy rm As wc post w1 mc ms) (cw : CallB R s args own index y bytes maxL ret9 wsy rm mc ms n ∧ (Cond.static y).before args s = true) (hsub : ∀ u, zSub ws wc (w1 u) (ws' u)) (hex : zIn ws wc) (hn9 : As.length = n) (hst : (rest.map fun v => v.category).sum ≤ 8) (hf : cells + mc ≤ R.cells ∧ slots + ms ≤ R.slots) (hdg : decode cc pc = .ok (.invokestatic index, 3)) (kk : ∀ (u : T), post u → zW p l e R s m args below meth c Q D cl A nL (cells + mc) (slots + ms) (ws' u) lv (pc + 3) rest) : zW p l e R s m args below meth c Q D cl A nL cells slots ws lv pc (As.reverse ++ rest) :=
  by
  intro H locs ls hP hD hS hl
  have hsub0 := hex
  have hF : ∀ q : Nat, va_A wc H.size q → A q := zPc.free C (hsub0.2 A hD) hS
  refine va_callv (va_runS (As := As) (rest := rest) ⟨C.1, C.2.1, C.2.2.1, C.2.2.2.1, C.2.2.2.2.1⟩ (hM H.size) cw ⟨zPc.blind, zPc.at_ C (hsub0.1 D cl H hP) (hsub0.2 A hD) hS⟩ rfl hn9 hl.1 rfl (lv_room hst) hdg hf) hS (fun q _ h => hF q h) hF (fun u t H1 locs1 ht hvm hw hB hz1 hk1 hS1 => ?_)
  obtain ⟨hP1, hK1, hD1⟩ := hB
  rw [ht] at hP1
  obtain ⟨g1, g2⟩ := (hsub u).2.2 D cl A H H1 hP hD hF hk1 hP1 hD1
  exact kk u hw H1 locs1 ls g1 g2 hS1 hl
theorem z_callSNi (C : zK sa D cl tys A p s m args meth c cc nL own Ts ret) {T : Type} {y : MethodName} {wsy : List Cond} {rm : Room} {bytes : ByteArray} {maxL mc ms n index : Nat} {ret9 : Option FieldType} {Cn : String} {a : Nat} {As : List Value} {wc : va_W} {post : Int32 → T → Prop} {w1 : T → va_W} {ws' : T → va_W} (hM : zMi sa D cl tys l y wsy rm As wc post w1 mc ms) (cw : va_CN R s args own index y RX4 bytes maxL ret9 wsy rm mc ms n ∧ (Cond.static y).before args s = true ∧ True) (hsub : ∀ u, zSub ws wc (w1 u) (ws' u)) (hex : zIn ws wc) (hn9 : As.length = n) (hst : (rest.map fun v => v.category).sum ≤ 8) (hf : cells + mc ≤ R.cells ∧ slots + ms ≤ R.slots) (hdg : decode cc pc = .ok (.invokestatic index, 3)) (kk : ∀ (r : Int32) (u : T), post r u → zW p l e R s m args below meth c Q D cl A nL (cells + mc) (slots + ms) (ws' u) lv (pc + 3) (.int r :: rest)) : zW p l e R s m args below meth c Q D cl A nL cells slots ws lv pc (As.reverse ++ rest) :=
  by
  intro H locs ls hP hD hS hl
  have hsub0 := hex
  have hF : ∀ q : Nat, va_A wc H.size q → A q := zPc.free C (hsub0.2 A hD) hS
  refine va_calli (va_runSN (As := As) (rest := rest) ⟨C.1, C.2.1, C.2.2.1, C.2.2.2.1, C.2.2.2.2.1⟩ (hM H.size) cw ⟨zPc.blind, zPc.at_ C (hsub0.1 D cl H hP) (hsub0.2 A hD) hS⟩ rfl hn9 hl.1 rfl (lv_room hst) hdg hf) hS (fun q _ h => hF q h) hF (fun r u t H1 locs1 ht hvm hw hB hz1 hk1 hS1 => ?_)
  obtain ⟨hP1, hK1, hD1⟩ := hB
  rw [ht] at hP1
  obtain ⟨g1, g2⟩ := (hsub u).2.2 D cl A H H1 hP hD hF hk1 hP1 hD1
  exact kk r u hw H1 locs1 ls g1 g2 hS1 hl
theorem z_callIv (C : zK sa D cl tys A p s m args meth c cc nL own Ts ret) {T : Type} {y : MethodName} {wsy : List Cond} {rm : Room} {bytes : ByteArray} {maxL mc ms n index : Nat} {ret9 : Option FieldType} {Cn : String} {a : Nat} {As : List Value} {wc : va_W} {post : T → Prop} {w1 : T → va_W} {ws' : T → va_W} (hM : zMv sa D cl tys l y wsy rm (.ref a :: As) wc post w1 mc ms) (cw : CallB R s args own index y bytes maxL none wsy rm mc ms n ∧ y.name = "<init>" ∧ (Cond.instanceMethod y).before args s = true) (hsub : ∀ u, zSub ws wc (w1 u) (ws' u)) (hex : zIn ws wc) (hn9 : As.length = n) (hst : (rest.map fun v => v.category).sum ≤ 8) (hf : cells + mc ≤ R.cells ∧ slots + ms ≤ R.slots) (hdg : decode cc pc = .ok (.invokespecial index, 3)) (kk : ∀ (u : T), post u → zW p l e R s m args below meth c Q D cl A nL (cells + mc) (slots + ms) (ws' u) lv (pc + 3) rest) : zW p l e R s m args below meth c Q D cl A nL cells slots ws lv pc (As.reverse ++ .ref a :: rest) :=
  by
  intro H locs ls hP hD hS hl
  have hsub0 := hex
  have hF : ∀ q : Nat, va_A wc H.size q → A q := zPc.free C (hsub0.2 A hD) hS
  refine va_callv (va_runI (As := As) (rest := rest) ⟨C.1, C.2.1, C.2.2.1, C.2.2.2.1, C.2.2.2.2.1⟩ (hM H.size) cw ⟨zPc.blind, zPc.at_ C (hsub0.1 D cl H hP) (hsub0.2 A hD) hS⟩ rfl hn9 hl.1 rfl (lv_room hst) hdg hf) hS (fun q _ h => hF q h) hF (fun u t H1 locs1 ht hvm hw hB hz1 hk1 hS1 => ?_)
  obtain ⟨hP1, hK1, hD1⟩ := hB
  rw [ht] at hP1
  obtain ⟨g1, g2⟩ := (hsub u).2.2 D cl A H H1 hP hD hF hk1 hP1 hD1
  exact kk u hw H1 locs1 ls g1 g2 hS1 hl
end ZZ
end
section
/-! entries and ends of methods; throws and catches -/
section ZC
theorem zmet_ofWH {l : Launch} {y : MethodName} {ws ws' : List Cond} {rm : Room} {Pc : Array Value → State → Prop} {Qc : Array Value → State → Outcome → State → Prop} {mc ms : Nat} {free : Addr → Prop} {cc : ByteArray} {maxL : Nat} {ret : Option FieldType} {hh : List (Nat × Nat × Nat × Nat)}
    (hy : plainName y.cls = true) (hw : ws = Cond.codeWith y cc maxL ret hh :: ws')
    (body : ∀ p e s m args below meth c s₁, BodyLoose p l y (headSpec ws rm) cc maxL ret e s m args below meth c s₁ → c.maxLocals = maxL → Pc args s →
      W p l e (headSpec ws rm).room s m args below meth c s.heap [] 0 0 (MQ below Qc args s mc ms free) (entryFrame m args maxL)) : Met l y ws rm Pc Qc mc ms free := by
  refine MetFree.of_bodyS (code := cc) (maxLocals := maxL) (ret := ret) hy ?_ ?_
  · intro args s m h hn
    obtain ⟨m9, meth, c, hn9, h1, h2, h3, h4, -, h5, h6, -⟩ := Cond.codeWith_spec (atoms_spec (ws := ws) h _ (by rw [hw]; exact List.mem_cons_self))
    cases hn.symm.trans hn9
    exact ⟨meth, c, h1, h2, h3, h4, h5, h6⟩
  · intro p e s m args below meth c s₁ B hml hP _
    have hh0 : s₁.heap = s.heap := by rw [B.state]; rfl
    obtain ⟨t, a1, o, b1, b2, b3⟩ := body p e s m args below meth c s₁ B hml hP s₁ hh0 (Stand.of_body B)
    exact ⟨t, o, a1, b1, b2, ⟨b3.1, b3.2⟩⟩
variable {p : Program} {l : Launch} {e : Env} {R : Room} {s : State} {m : MethodId} {args : Array Value} {below : List Frame} {meth : Method} {c : Code} {Q : State → Prop} {D : va_G} {cl : List vw_C} {A : Nat → Prop} {tys : List (ClassId × FieldType)} {cc : ByteArray} {nL : Nat} {own : String} {Ts : List Cond} {sa : Nat → Nat} {ret : Option FieldType}
variable {cells slots : Nat} {ws ws' : va_W} {lv lv' : List (Nat × Value)} {pc : Nat} {st rest : List Value}
def zQi {T : Type} (D : va_G) (cl : List vw_C) (tys : List (ClassId × FieldType)) (A : Nat → Prop) (post : Int32 → T → Prop) (w1 : T → va_W) : Array Value → State → Outcome → State → Prop := va_Qi post (fun u t => va_P D cl (w1 u) t.heap ∧ va_K D cl tys t ∧ va_D A (w1 u)) A
def zQv {T : Type} (D : va_G) (cl : List vw_C) (tys : List (ClassId × FieldType)) (A : Nat → Prop) (post : T → Prop) (w1 : T → va_W) : Array Value → State → Outcome → State → Prop := va_Qv post (fun u t => va_P D cl (w1 u) t.heap ∧ va_K D cl tys t ∧ va_D A (w1 u)) A
def zQx (D : va_G) (cl : List vw_C) (tys : List (ClassId × FieldType)) (A : Nat → Prop) (E : String) (wc : va_W) : String → State → State → Prop := vx_X (S := Unit) (fun _ => True) (fun E1 _ t => E1 = E ∧ va_P D cl wc t.heap ∧ va_K D cl tys t ∧ va_D A wc) A

theorem zMi.of {T : Type} {post : Int32 → T → Prop} {w1 : T → va_W} {y : MethodName} {wsy wsy' : List Cond} {rm : Room} {av : List Value} {wc : va_W} {mc ms : Nat} (hy : plainName y.cls = true) (hw : wsy = Cond.code y cc nL ret :: wsy') (lv0 : List (Nat × Value)) (hlv : lv_args 0 av = lv0) (hsl : (lg_sl av).length ≤ nL) (hown : y.cls = own)
    (body : ∀ (A : Nat → Prop) (p : Program) (e : Env) (s : State) (m : MethodId) (args : Array Value) (below : List Frame) (meth : Method) (c : Code), zK sa D cl tys A p s m args meth c cc nL own wsy ret → meth.name = y.name →
      zW p l e rm s m args below meth c (MQ below (zQi D cl tys A post w1) args s mc ms A) D cl A nL 0 0 wc lv0 0 []) : zMi sa D cl tys l y wsy rm av wc post w1 mc ms := by
  intro sz
  refine Met.ofW (cc := cc) (maxL := nL) (ret := ret) hy hw ?_
  intro p e s m args below meth c s₁ B hml hv
  obtain ⟨rfl, hsz, hP, hK, hD0, hG⟩ := hv
  have hts := atoms_spec (ws := wsy) B.pre
  have hown2 : s.vm.findClass own = some m.cls := by rw [← hown]; exact findClass_of_methodNamed B.named
  subst hsz
  have hD := hD0.self (sz := s.heap.size)
  have hl := lv_entry av (n := nL) hsl
  rw [lg_entry_eq]
  rw [hlv] at hl
  have hA : ∀ q : Nat, s.heap.size ≤ q → va_A wc s.heap.size q := fun q h => Or.inr h
  exact body (va_A wc s.heap.size) p e s m _ below meth c ⟨B.exec, B.bytes, hml, hown2, hts, hK, hA, hG, B.notSynchronized, B.returns⟩ (name_of_methodNamed B.named B.method).1 s.heap [] _ hP hD va_S.rf hl
theorem zMv.of {T : Type} {post : T → Prop} {w1 : T → va_W} {y : MethodName} {wsy wsy' : List Cond} {rm : Room} {av : List Value} {wc : va_W} {mc ms : Nat} (hy : plainName y.cls = true) (hw : wsy = Cond.code y cc nL ret :: wsy') (lv0 : List (Nat × Value)) (hlv : lv_args 0 av = lv0) (hsl : (lg_sl av).length ≤ nL) (hown : y.cls = own)
    (body : ∀ (A : Nat → Prop) (p : Program) (e : Env) (s : State) (m : MethodId) (args : Array Value) (below : List Frame) (meth : Method) (c : Code), zK sa D cl tys A p s m args meth c cc nL own wsy ret → meth.name = y.name →
      zW p l e rm s m args below meth c (MQ below (zQv D cl tys A post w1) args s mc ms A) D cl A nL 0 0 wc lv0 0 []) : zMv sa D cl tys l y wsy rm av wc post w1 mc ms := by
  intro sz
  refine Met.ofW (cc := cc) (maxL := nL) (ret := ret) hy hw ?_
  intro p e s m args below meth c s₁ B hml hv
  obtain ⟨rfl, hsz, hP, hK, hD0, hG⟩ := hv
  have hts := atoms_spec (ws := wsy) B.pre
  have hown2 : s.vm.findClass own = some m.cls := by rw [← hown]; exact findClass_of_methodNamed B.named
  subst hsz
  have hD := hD0.self (sz := s.heap.size)
  have hl := lv_entry av (n := nL) hsl
  rw [lg_entry_eq]
  rw [hlv] at hl
  have hA : ∀ q : Nat, s.heap.size ≤ q → va_A wc s.heap.size q := fun q h => Or.inr h
  exact body (va_A wc s.heap.size) p e s m _ below meth c ⟨B.exec, B.bytes, hml, hown2, hts, hK, hA, hG, B.notSynchronized, B.returns⟩ (name_of_methodNamed B.named B.method).1 s.heap [] _ hP hD va_S.rf hl
theorem zX.of {E : String} {y : MethodName} {wsy wsy' : List Cond} {rm : Room} {av : List Value} {wc : va_W} {mc ms : Nat} (hy : plainName y.cls = true) (hw : wsy = Cond.code y cc nL ret :: wsy') (lv0 : List (Nat × Value)) (hlv : lv_args 0 av = lv0) (hsl : (lg_sl av).length ≤ nL) (hown : y.cls = own)
    (body : ∀ (A : Nat → Prop) (p : Program) (e : Env) (s : State) (m : MethodId) (args : Array Value) (below : List Frame) (meth : Method) (c : Code), zK sa D cl tys A p s m args meth c cc nL own wsy ret → meth.name = y.name → (∀ x ∈ c.exceptionTable.toList, False) →
      zW p l e rm s m args below meth c (vx_MQ below (fun _ _ _ _ => False) (zQx D cl tys A E wc) args s mc ms A) D cl A nL 0 0 wc lv0 0 []) : zX sa D cl tys l y wsy rm av wc E mc ms := by
  intro sz
  refine vx_ofW (cc := cc) (maxL := nL) (ret := ret) hy hw ?_
  intro p e s m args below meth c s₁ B hml ht hv
  obtain ⟨rfl, hsz, hP, hK, hD0, hG⟩ := hv
  have hts := atoms_spec (ws := wsy) B.pre
  have hown2 : s.vm.findClass own = some m.cls := by rw [← hown]; exact findClass_of_methodNamed B.named
  subst hsz
  have hD := hD0.self (sz := s.heap.size)
  have hl := lv_entry av (n := nL) hsl
  rw [lg_entry_eq]
  rw [hlv] at hl
  have hA : ∀ q : Nat, s.heap.size ≤ q → va_A wc s.heap.size q := fun q h => Or.inr h
  exact body (va_A wc s.heap.size) p e s m _ below meth c ⟨B.exec, B.bytes, hml, hown2, hts, hK, hA, hG, B.notSynchronized, B.returns⟩ (name_of_methodNamed B.named B.method).1 ht s.heap [] _ hP hD va_S.rf hl
theorem zMi.ofH {T : Type} {post : Int32 → T → Prop} {w1 : T → va_W} {y : MethodName} {wsy wsy' : List Cond} {rm : Room} {av : List Value} {wc : va_W} {mc ms : Nat} {hh : List (Nat × Nat × Nat × Nat)} (hy : plainName y.cls = true) (hw : wsy = Cond.codeWith y cc nL ret hh :: wsy') (lv0 : List (Nat × Value)) (hlv : lv_args 0 av = lv0) (hsl : (lg_sl av).length ≤ nL) (hown : y.cls = own)
    (body : ∀ (A : Nat → Prop) (p : Program) (e : Env) (s : State) (m : MethodId) (args : Array Value) (below : List Frame) (meth : Method) (c : Code), zK sa D cl tys A p s m args meth c cc nL own wsy ret → meth.name = y.name → c.exceptionTable.toList = tableOf hh →
      zW p l e rm s m args below meth c (MQ below (zQi D cl tys A post w1) args s mc ms A) D cl A nL 0 0 wc lv0 0 []) : zMi sa D cl tys l y wsy rm av wc post w1 mc ms := by
  intro sz
  refine zmet_ofWH (cc := cc) (maxL := nL) (ret := ret) hy hw ?_
  intro p e s m args below meth c s₁ B hml hv
  obtain ⟨rfl, hsz, hP, hK, hD0, hG⟩ := hv
  have hts := atoms_spec (ws := wsy) B.pre
  have hown2 : s.vm.findClass own = some m.cls := by rw [← hown]; exact findClass_of_methodNamed B.named
  subst hsz
  have hD := hD0.self (sz := s.heap.size)
  have hl := lv_entry av (n := nL) hsl
  rw [lg_entry_eq]
  rw [hlv] at hl
  have hA : ∀ q : Nat, s.heap.size ≤ q → va_A wc s.heap.size q := fun q h => Or.inr h
  exact body (va_A wc s.heap.size) p e s m _ below meth c ⟨B.exec, B.bytes, hml, hown2, hts, hK, hA, hG, B.notSynchronized, B.returns⟩ (name_of_methodNamed B.named B.method).1 (vx_table (x := y) B (hts _ (by rw [hw]; exact List.mem_cons_self))) s.heap [] _ hP hD va_S.rf hl
theorem z_iret {T : Type} {post : Int32 → T → Prop} {w1 : T → va_W} {mc ms : Nat} {v : Int32} (C : zK sa D cl tys A p s m args meth c cc nL own Ts (some .int)) (u : T) (hp : post v u) (hw : w1 u = ws) (hc : cells ≤ mc) (hs : slots ≤ ms) (hdg : decode cc pc = .ok (.ireturn, 1)) : zW p l e R s m args below meth c (MQ below (zQi D cl tys A post w1) args s mc ms A) D cl A nL cells slots ws lv pc [.int v] :=
  fun H locs ls hP hD hS hl => W.widen hc hs (W.iret C.1 C.2.1 C.2.2.2.2.2.2.2.2.2 (fun t ht hW => ⟨⟨v, u, rfl, hp, by rw [hw, ht]; exact hP, va_K.moved hW.alike C.2.2.2.2.2.1, by rw [hw]; exact hD⟩, hS.F ht⟩) hS.2.2 hdg C.2.2.2.2.2.2.2.2.1)
theorem z_zret {T : Type} {post : Int32 → T → Prop} {w1 : T → va_W} {mc ms : Nat} {v : Int32} (C : zK sa D cl tys A p s m args meth c cc nL own Ts (some .boolean)) (u : T) (hp : post v u) (hw : w1 u = ws) (hc : cells ≤ mc) (hs : slots ≤ ms) (hn : narrow .boolean (.int v) = .int v) (hdg : decode cc pc = .ok (.ireturn, 1)) : zW p l e R s m args below meth c (MQ below (zQi D cl tys A post w1) args s mc ms A) D cl A nL cells slots ws lv pc [.int v] :=
  fun H locs ls hP hD hS hl => W.widen hc hs (W.zret C.1 C.2.1 C.2.2.2.2.2.2.2.2.2 hn (fun t ht hW => ⟨⟨v, u, rfl, hp, by rw [hw, ht]; exact hP, va_K.moved hW.alike C.2.2.2.2.2.1, by rw [hw]; exact hD⟩, hS.F ht⟩) hS.2.2 hdg C.2.2.2.2.2.2.2.2.1)
theorem z_vret {T : Type} {post : T → Prop} {w1 : T → va_W} {mc ms : Nat} (C : zK sa D cl tys A p s m args meth c cc nL own Ts none) (u : T) (hp : post u) (hw : w1 u = ws) (hc : cells ≤ mc) (hs : slots ≤ ms) (hdg : decode cc pc = .ok (.return_, 1)) : zW p l e R s m args below meth c (MQ below (zQv D cl tys A post w1) args s mc ms A) D cl A nL cells slots ws lv pc [] :=
  fun H locs ls hP hD hS hl => W.widen hc hs (W.vret C.1 C.2.1 C.2.2.2.2.2.2.2.2.2 (fun t ht hW => ⟨⟨u, rfl, hp, by rw [hw, ht]; exact hP, va_K.moved hW.alike C.2.2.2.2.2.1, by rw [hw]; exact hD⟩, hS.F ht⟩) hS.2.2 hdg C.2.2.2.2.2.2.2.2.1)
/-- an E thrown over the frame -/
def zT (p : Program) (l : Launch) (e : Env) (R : Room) (s : State) (m : MethodId) (args : Array Value) (below : List Frame) (meth : Method) (c : Code) (Q : State → Prop) (D : va_G) (cl : List vw_C) (A : Nat → Prop) (nL cells slots : Nat) (ws : va_W) (lv : List (Nat × Value)) (pc : Nat) (st : List Value) (E : String) : Prop :=
  ∀ (H : Heap) (locs : List Loc) (ls : Array Slot) (q : Addr) (ce : Cell), va_P D cl ws H → va_D A ws → va_S A s.heap H locs → lv_has ls nL lv → H[q]? = some ce → ce.vm = .none → s.vm.findClass E = some ce.cls → vx_W p l e R s m args below meth c H locs cells slots Q (F0 m pc ls st) q

theorem z_out {E : String} {mc ms : Nat} (C : zK sa D cl tys A p s m args meth c cc nL own Ts ret) (ht : ∀ x ∈ c.exceptionTable.toList, False) (hc : cells ≤ mc) (hs : slots ≤ ms) : zT p l e R s m args below meth c (vx_MQ below (fun _ _ _ _ => False) (zQx D cl tys A E ws) args s mc ms A) D cl A nL cells slots ws lv pc st E :=
  fun H locs ls q ce hP hD hS hl hq hv hcl => vx_out (fun x hx => (ht x hx).elim) C.2.2.2.2.2.2.2.2.1 hq hv hcl (fun t ht9 ha => ⟨(), trivial, ⟨rfl, by rw [ht9]; exact hP, va_K.moved ha C.2.2.2.2.2.1, hD⟩, hS.F ht9⟩) hS.2.2 hc hs
/-- throw new E("text") -/
theorem z_throwS {E text : String} {names : List String} {ik is ic mc ms : Nat} (C : zK sa D cl tys A p s m args meth c cc nL own Ts ret) (ht : ∀ x ∈ c.exceptionTable.toList, False) (hfl : l.stackTraces = false) (hown : own = RX4)
    (hcls : Bundle.fit E = true) (hnames : ∀ n ∈ names, Bundle.fit n = true) (hk : Cond.classLink own ik E ∈ Ts) (hini : Cond.initialized E ∈ Ts) (hstr : (is, text) ∈ zStr) (hE : E ∈ zEs)
    (hat1 : ∀ w ∈ (vx_atS own ic E names).filter goodWord, w ∈ Ts) (hat2 : ∀ w ∈ (vx_atS own ic E names).filter (fun w => !goodWord w), w = .castable E E)
    (hgood : ∀ w ∈ Cond.classLink own ik E :: Cond.initialized E :: vx_atS own ic E names, vx_ot w = true)
    (d0 : decode cc pc = .ok (.new ik, 3)) (d3 : decode cc (pc + 3) = .ok (.dup, 1)) (d4 : decode cc (pc + 4) = .ok (.ldc is, 2)) (d6 : decode cc (pc + 6) = .ok (.invokespecial ic, 3)) (d9 : decode cc (pc + 9) = .ok (.athrow, 1))
    (hR : names.length + 3 < R.frames ∧ (st.map fun v => v.category).sum + (13 * (names.length + 1) + 43) ≤ R.locals ∧ cells + 1 ≤ R.cells ∧ slots + 6 ≤ R.slots) (hc : cells + 1 ≤ mc) (hs : slots + 6 ≤ ms) : zW p l e R s m args below meth c (vx_MQ below (fun _ _ _ _ => False) (zQx D cl tys A E ws) args s mc ms A) D cl A nL cells slots ws lv pc st := by
  intro H locs ls hP hD hS hl
  have hG := C.2.2.2.2.2.2.2.1
  refine vx_throwS (A := A) C.1 C.2.1 hfl C.2.2.2.1 hcls hnames (C.2.2.2.2.1 _ hk) (C.2.2.2.2.1 _ hini) (by rw [hown]; exact hG.1 (is, text) hstr) (vx_hat (B := [.castable E E]) (fun w hw => C.2.2.2.2.1 _ (hat1 w hw)) (fun w hw => by rw [hat2 w hw]; exact List.mem_cons_self) (fun w hw => by rw [List.mem_singleton.mp hw]; exact va_Nw.use rfl (hG.2.2.1 E hE))) hgood hG.2.2.2.2.1 hG.2.2.2.2.2 hS (by rw [C.2.2.1]; exact hl.1) d0 d3 d4 d6 d9 (fun x hx => (ht x hx).elim) hR.1 hR.2.1 hR.2.2.1 hR.2.2.2 C.2.2.2.2.2.2.2.2.1 ?_ hS.2.2 hc hs
  intro t ha hz hk9
  refine ⟨(), trivial, ⟨rfl, hP.kept (fun k q hq => hk9 q.1 ((hP k q hq).lt)), va_K.moved ha C.2.2.2.2.2.1, hD⟩, Nat.le_trans hS.1 hz, fun q h1 h2 => ?_⟩
  rw [hk9 q (Nat.lt_of_lt_of_le h1 hS.1)]
  exact hS.2.1 q h1 h2

theorem z_callVx (C : zK sa D cl tys A p s m args meth c cc nL own Ts ret) {y : MethodName} {wsy : List Cond} {rm : Room} {bytes : ByteArray} {maxL mc ms n index : Nat} {ret9 : Option FieldType} {Cn : String} {a : Nat} {As : List Value} {wc : va_W} {E : String} (hM : zX sa D cl tys l y wsy rm (.ref a :: As) wc E mc ms) (cw : CallW R s args own Cn index y bytes maxL ret9 wsy rm mc ms n) (q0 : Nat) {ci : Nat} {fs : List Value} {cq : vw_C} (he : ws[q0]? = some (a, .inr (ci, fs))) (hcl : cl[ci]? = some cq) (hcq : cq.1 = Cn) (hsub : zSub ws wc wc ws) (hn9 : As.length = n) (hst : (rest.map fun v => v.category).sum ≤ 8) (hf : cells + mc ≤ R.cells ∧ slots + ms ≤ R.slots) (hdg : decode cc pc = .ok (.invokevirtual index, 3))
    (kk : zT p l e R s m args below meth c (Q) D cl A nL (cells + mc) (slots + ms) ws lv pc rest E) : zW p l e R s m args below meth c (Q) D cl A nL cells slots ws lv pc (As.reverse ++ .ref a :: rest) := by
  intro H locs ls hP hD hS hl
  have hF : ∀ q : Nat, va_A wc H.size q → A q := zPc.free C (hsub.2.1 A hD) hS
  have hr := vx_runV (l := l) (e := e) (below := below) (meth := meth) (H := H) (locs := locs) (cells := cells) (slots := slots) (g := F0 m pc ls (As.reverse ++ .ref a :: rest)) (As := As) (rest := rest) ⟨C.1, C.2.1, C.2.2.1, C.2.2.2.1, C.2.2.2.2.1⟩ (hM H.size) cw ⟨zPc.blind, (by rw [← hcq]; exact va_recv C.2.2.2.2.2.1 hP hcl he), zPc.at_ C (hsub.1 D cl H hP) (hsub.2.1 A hD) hS⟩ rfl hn9 hl.1 rfl (lv_room hst) hdg hf
  intro T hT X
  rcases hr T hT X with ⟨v, st₀, t, T', L, h0, X', hL, e1, e2, hq, hst9⟩ | ⟨q, st₀, t, T', L, E9, ce, h0, X', hL, e1, e2, ⟨u, hp, ⟨hE, hP1, hK1, hD1⟩, hFr⟩, hce, hcv, hcl9, hst9⟩
  · exact hq.elim
  · subst hE
    obtain ⟨k1, k2, k3⟩ := vx_keep h0 e1 hS (fun q _ h => hF q h) (fun q h => hF q h) hL hFr
    rw [← e1] at hP1
    obtain ⟨g1, g2⟩ := hsub.2.2 D cl A H T'.heap hP hD hF k2 hP1 hD1
    obtain ⟨t2, a1, b1⟩ := kk T'.heap (locs ++ L) ls q ce g1 g2 k3 hl (by rw [e1]; exact hce) hcv hcl9 T' rfl X'
    exact ⟨t2, hst9.trans a1, b1⟩

theorem z_callSx (C : zK sa D cl tys A p s m args meth c cc nL own Ts ret) {y : MethodName} {wsy : List Cond} {rm : Room} {bytes : ByteArray} {maxL mc ms n index : Nat} {ret9 : Option FieldType} {Cn : String} {a : Nat} {As : List Value} {wc : va_W} {E : String} (hM : zX sa D cl tys l y wsy rm As wc E mc ms) (cw : CallB R s args own index y bytes maxL ret9 wsy rm mc ms n ∧ (Cond.static y).before args s = true) (hsub : zSub ws wc wc ws) (hn9 : As.length = n) (hst : (rest.map fun v => v.category).sum ≤ 8) (hf : cells + mc ≤ R.cells ∧ slots + ms ≤ R.slots) (hdg : decode cc pc = .ok (.invokestatic index, 3))
    (kk : zT p l e R s m args below meth c (Q) D cl A nL (cells + mc) (slots + ms) ws lv pc rest E) : zW p l e R s m args below meth c (Q) D cl A nL cells slots ws lv pc (As.reverse ++ rest) := by
  intro H locs ls hP hD hS hl
  have hF : ∀ q : Nat, va_A wc H.size q → A q := zPc.free C (hsub.2.1 A hD) hS
  have hr := vx_runS (l := l) (e := e) (below := below) (meth := meth) (H := H) (locs := locs) (cells := cells) (slots := slots) (g := F0 m pc ls (As.reverse ++ rest)) (As := As) (rest := rest) ⟨C.1, C.2.1, C.2.2.1, C.2.2.2.1, C.2.2.2.2.1⟩ (hM H.size) cw ⟨zPc.blind, zPc.at_ C (hsub.1 D cl H hP) (hsub.2.1 A hD) hS⟩ rfl hn9 hl.1 rfl (lv_room hst) hdg hf
  intro T hT X
  rcases hr T hT X with ⟨v, st₀, t, T', L, h0, X', hL, e1, e2, hq, hst9⟩ | ⟨q, st₀, t, T', L, E9, ce, h0, X', hL, e1, e2, ⟨u, hp, ⟨hE, hP1, hK1, hD1⟩, hFr⟩, hce, hcv, hcl9, hst9⟩
  · exact hq.elim
  · subst hE
    obtain ⟨k1, k2, k3⟩ := vx_keep h0 e1 hS (fun q _ h => hF q h) (fun q h => hF q h) hL hFr
    rw [← e1] at hP1
    obtain ⟨g1, g2⟩ := hsub.2.2 D cl A H T'.heap hP hD hF k2 hP1 hD1
    obtain ⟨t2, a1, b1⟩ := kk T'.heap (locs ++ L) ls q ce g1 g2 k3 hl (by rw [e1]; exact hce) hcv hcl9 T' rfl X'
    exact ⟨t2, hst9.trans a1, b1⟩

/-- caught by the row x of this method's table -/
theorem z_catch {E name : String} (C : zK sa D cl tys A p s m args meth c cc nL own Ts ret) (pre : List ExceptionTableEntry) (x : ExceptionTableEntry) (suf : List ExceptionTableEntry) (hsplit : c.exceptionTable.toList = pre ++ x :: suf)
    (hpass : ∀ z ∈ pre, z.catchType ≠ 0 ∧ ∃ nm : String, Cond.classLink own z.catchType nm ∈ Ts ∧ (E, nm) ∈ zNcs) (hx : covers x pc = true) (h0 : x.catchType ≠ 0) (hlink : Cond.classLink own x.catchType name ∈ Ts) (hE : E ∈ zEs) (hname : name = E)
    (kk : ∀ q : Nat, zW p l e R s m args below meth c (Q) D cl A nL cells slots ws lv x.handlerPc [.ref q]) : zT p l e R s m args below meth c (Q) D cl A nL cells slots ws lv pc st E := by
  subst hname
  intro H locs ls q ce hP hD hS hl hq hv hcl
  have hG := C.2.2.2.2.2.2.2.1
  refine vx_catch C.2.2.2.1 pre x suf hsplit (fun z hz => ?_) hx h0 (C.2.2.2.2.1 _ hlink) (va_Nw.use rfl (hG.2.2.1 name hE)) hq hv hcl (kk q H locs ls hP hD hS hl)
  obtain ⟨h1, nm, h2, h3⟩ := hpass z hz
  exact Or.inr ⟨h1, nm, C.2.2.2.2.1 _ h2, hG.2.2.2.1 _ h3⟩
end ZC
end
section
/-! the worlds of the class and of the reference; rows for new cells, copies, longs -/
section ZS
abbrev zty (cI cZ cL : ClassId) : List (ClassId × FieldType) := [(cI, .int), (cZ, .boolean), (cL, .long)]
def wX (ad : Nat → Nat) (cI cZ : ClassId) (acc net tacc tnet flo bnd frm too amt pri wai byp ldr bor due plg clo pap cnd : Nat → Int32) (small price cut proc made lmade lend : Int32) : va_W :=
  [((ad 0), .inr (4, [.ref (ad 1), .ref (ad 2), .ref (ad 3), .ref (ad 4), .ref (ad 5), .ref (ad 22), .ref (ad 23), .ref (ad 24), .int small, .int price, .int cut, .int proc])),
   ((ad 1), .inr (3, [.ref (ad 6), .ref (ad 7)])),
   ((ad 2), .inr (3, [.ref (ad 8), .ref (ad 9)])),
   ((ad 3), .inr (0, [.ref (ad 10), .ref (ad 11)])),
   ((ad 4), .inr (2, [.ref (ad 12), .ref (ad 13), .ref (ad 14), .ref (ad 15), .ref (ad 16), .ref (ad 17), .int made])),
   ((ad 5), .inr (1, [.ref (ad 18), .ref (ad 19), .ref (ad 20), .ref (ad 21), .int lmade, .int lend])),
   ((ad 6), .inl (cI, 5, .inl acc)),
   ((ad 7), .inl (cI, 25, .inl net)),
   ((ad 8), .inl (cI, 5, .inl tacc)),
   ((ad 9), .inl (cI, 25, .inl tnet)),
   ((ad 10), .inl (cI, 5, .inl flo)),
   ((ad 11), .inl (cI, 25, .inl bnd)),
   ((ad 12), .inl (cI, 60, .inl frm)),
   ((ad 13), .inl (cI, 60, .inl too)),
   ((ad 14), .inl (cI, 60, .inl amt)),
   ((ad 15), .inl (cI, 60, .inl pri)),
   ((ad 16), .inl (cZ, 60, .inl wai)),
   ((ad 17), .inl (cI, 60, .inl byp)),
   ((ad 18), .inl (cI, 40, .inl ldr)),
   ((ad 19), .inl (cI, 40, .inl bor)),
   ((ad 20), .inl (cI, 40, .inl due)),
   ((ad 21), .inl (cI, 40, .inl plg)),
   ((ad 22), .inl (cZ, 5, .inl clo)),
   ((ad 23), .inl (cI, 5, .inl pap)),
   ((ad 24), .inl (cI, 10, .inl cnd))]
def wM (md : Nat → Nat) (cI cZ : ClassId) (acc flo pap clo net bnd frm too amt pri wai fst ldr bor lnt rat plg opn : Nat → Int32) (made small lmade price cut proc thr : Int32) : va_W :=
  [((md 0), .inr (5, [.ref (md 1), .ref (md 2), .ref (md 3), .ref (md 4), .ref (md 5), .ref (md 6), .int made, .ref (md 7), .ref (md 8), .ref (md 9), .ref (md 10), .ref (md 11), .int small, .ref (md 12), .int lmade, .ref (md 13), .ref (md 14), .ref (md 15), .ref (md 16), .ref (md 17), .ref (md 18), .int price, .int cut, .int proc, .int thr])),
   ((md 1), .inl (cI, 5, .inl acc)),
   ((md 2), .inl (cI, 5, .inl flo)),
   ((md 3), .inl (cI, 5, .inl pap)),
   ((md 4), .inl (cZ, 5, .inl clo)),
   ((md 5), .inl (cI, 25, .inl net)),
   ((md 6), .inl (cI, 25, .inl bnd)),
   ((md 7), .inl (cI, 60, .inl frm)),
   ((md 8), .inl (cI, 60, .inl too)),
   ((md 9), .inl (cI, 60, .inl amt)),
   ((md 10), .inl (cI, 60, .inl pri)),
   ((md 11), .inl (cZ, 60, .inl wai)),
   ((md 12), .inl (cI, 5, .inl fst)),
   ((md 13), .inl (cI, 40, .inl ldr)),
   ((md 14), .inl (cI, 40, .inl bor)),
   ((md 15), .inl (cI, 40, .inl lnt)),
   ((md 16), .inl (cI, 40, .inl rat)),
   ((md 17), .inl (cI, 40, .inl plg)),
   ((md 18), .inl (cZ, 40, .inl opn))]
theorem z_nb {x : Int32} (h : x = 0 ∨ x = 1) : narrow .boolean (.int x) = .int x := by
  rcases h with rfl | rfl <;> rfl
theorem z_dec {n : Nat} (h : 0 < n) : nI n + Int32.ofInt (-1) = nI (n - 1) := by
  obtain ⟨k, rfl⟩ : ∃ k, n = k + 1 := ⟨n - 1, by omega⟩
  exact pk_m1 k
theorem z_dvX0 : ∀ j, j < 2 → defaultValue (tyX0 j) = vp_V [.null, .null] j := by
  intro j hj
  rcases (show j = 0 ∨ j = 1 by omega) with rfl | rfl <;> rfl
theorem z_dvX1 : ∀ j, j < 6 → defaultValue (tyX1 j) = vp_V [.null, .null, .null, .null, .int 0, .int 0] j := by
  intro j hj
  rcases (show j = 0 ∨ j = 1 ∨ j = 2 ∨ j = 3 ∨ j = 4 ∨ j = 5 by omega) with rfl | rfl | rfl | rfl | rfl | rfl <;> rfl
theorem z_dvX2 : ∀ j, j < 7 → defaultValue (tyX2 j) = vp_V [.null, .null, .null, .null, .null, .null, .int 0] j := by
  intro j hj
  rcases (show j = 0 ∨ j = 1 ∨ j = 2 ∨ j = 3 ∨ j = 4 ∨ j = 5 ∨ j = 6 by omega) with rfl | rfl | rfl | rfl | rfl | rfl | rfl <;> rfl
theorem z_dvX3 : ∀ j, j < 2 → defaultValue (tyX3 j) = vp_V [.null, .null] j := by
  intro j hj
  rcases (show j = 0 ∨ j = 1 by omega) with rfl | rfl <;> rfl
theorem z_dvX4 : ∀ j, j < 12 → defaultValue (tyX4 j) = vp_V [.null, .null, .null, .null, .null, .null, .null, .null, .int 0, .int 0, .int 0, .int 0] j := by
  intro j hj
  rcases (show j = 0 ∨ j = 1 ∨ j = 2 ∨ j = 3 ∨ j = 4 ∨ j = 5 ∨ j = 6 ∨ j = 7 ∨ j = 8 ∨ j = 9 ∨ j = 10 ∨ j = 11 by omega) with rfl | rfl | rfl | rfl | rfl | rfl | rfl | rfl | rfl | rfl | rfl | rfl <;> rfl
theorem z_dvX5 : ∀ j, j < 25 → defaultValue (tyX5 j) = vp_V [.null, .null, .null, .null, .null, .null, .int 0, .null, .null, .null, .null, .null, .int 0, .null, .int 0, .null, .null, .null, .null, .null, .null, .int 0, .int 0, .int 0, .int 0] j := by
  intro j hj
  rcases (show j = 0 ∨ j = 1 ∨ j = 2 ∨ j = 3 ∨ j = 4 ∨ j = 5 ∨ j = 6 ∨ j = 7 ∨ j = 8 ∨ j = 9 ∨ j = 10 ∨ j = 11 ∨ j = 12 ∨ j = 13 ∨ j = 14 ∨ j = 15 ∨ j = 16 ∨ j = 17 ∨ j = 18 ∨ j = 19 ∨ j = 20 ∨ j = 21 ∨ j = 22 ∨ j = 23 ∨ j = 24 by omega) with rfl | rfl | rfl | rfl | rfl | rfl | rfl | rfl | rfl | rfl | rfl | rfl | rfl | rfl | rfl | rfl | rfl | rfl | rfl | rfl | rfl | rfl | rfl | rfl | rfl <;> rfl
variable {p : Program} {l : Launch} {e : Env} {R : Room} {s : State} {m : MethodId} {args : Array Value} {below : List Frame} {meth : Method} {c : Code} {Q : State → Prop} {D : va_G} {cl : List vw_C} {A : Nat → Prop} {tys : List (ClassId × FieldType)} {cc : ByteArray} {nL : Nat} {own : String} {Ts : List Cond} {sa : Nat → Nat} {ret : Option FieldType}
variable {cells slots : Nat} {ws ws' : va_W} {lv lv' : List (Nat × Value)} {pc : Nat} {st rest : List Value}
theorem z_objInit (C : zK sa D cl tys A p s m args meth c cc nL own Ts ret) {idx : Nat} {a : Nat} (h1 : Cond.methodLink own idx objectInit ∈ Ts) (h2 : Cond.instanceMethod objectInit ∈ Ts) (h3 : Cond.code objectInit ⟨#[0xb1]⟩ 1 none ∈ Ts) (hR : 1 ≤ R.frames ∧ (st.map fun v => v.category).sum + 12 ≤ R.locals) (hdg : decode cc pc = .ok (.invokespecial idx, 3)) (kk : zW p l e R s m args below meth c Q D cl A nL cells slots ws lv (pc + 3) st) : zW p l e R s m args below meth c Q D cl A nL cells slots ws lv pc (.ref a :: st) :=
  fun H locs ls hP hD hS hl => W.objInit C.1 C.2.1 C.2.2.2.1 (C.2.2.2.2.1 _ h1) (C.2.2.2.2.1 _ h2) (C.2.2.2.2.1 _ h3) rfl (by rw [C.2.2.1]; exact hl.1) rfl hdg hR.1 (by show 2 * 0 + _ + 12 ≤ _; have := hR.2; omega) (kk H locs ls hP hD hS hl)
theorem z_new (C : zK sa D cl tys A p s m args meth c cc nL own Ts ret) {C9 : String} {T : u_T} {N ci index : Nat} {fs : List Value} (hin : ∀ w ∈ u_ws C9 T N, w ∈ Ts) (ty : Nat → FieldType) (hty : ∀ k, k < N → parseFieldDescriptor (T k).2.2.1 = some (ty k)) (hcl : Cond.classLink own index C9 ∈ Ts) (hinst : Cond.instantiable C9 N ∈ Ts) (hini : Cond.initialized C9 ∈ Ts) (hc : cl[ci]? = some (C9, T, N)) (hfs : ∀ j, j < N → defaultValue (ty j) = vp_V fs j) (hR : cells + 1 ≤ R.cells ∧ slots + N ≤ R.slots) (hdg : decode cc pc = .ok (.new index, 3))
    (kk : ∀ q : Nat, zW p l e R s m args below meth c Q D cl A nL (cells + 1) (slots + N) (ws ++ [(q, .inr (ci, fs))]) lv (pc + 3) (.ref q :: st)) : zW p l e R s m args below meth c Q D cl A nL cells slots ws lv pc st :=
  fun H locs ls hP hD hS hl => va_new C.1 C.2.1 C.2.2.2.2.1 hin ty hty C.2.2.2.1 (C.2.2.2.2.1 _ hcl) (C.2.2.2.2.1 _ hinst) (C.2.2.2.2.1 _ hini) C.2.2.2.2.2.1 hP hD hS C.2.2.2.2.2.2.1 hc hfs hR.1 hR.2 hdg (fun q H1 hP1 hD1 hS1 => kk q H1 locs ls hP1 hD1 hS1 hl)
theorem z_ncls {U : State} {c1 c2 : ClassId} {ty : FieldType} (h1 : va_RA U c1 ty) (h2 : va_RA U c2 ty) (hp : refKind ty = false) : c1 = c2 := by
  cases ty with
  | object C => cases hp
  | _ => exact Option.some.inj (h1.symm.trans h2)
theorem z_newaI (C : zK sa D cl tys A p s m args meth c cc nL own Ts ret) {cA : ClassId} (harr : Cond.arrayClass .int ∈ Ts) (t0 : Nat) (ht : tys[t0]? = some (cA, .int)) {n : Int32} {N : Nat} (hn : ¬ n < 0) (hN : n.toNatClampNeg = N) (hb9 : N ≤ 1000) (hR : cells + 1 ≤ R.cells ∧ slots + N ≤ R.slots) (hdg : decode cc pc = .ok (.newarray .int, 2))
    (kk : ∀ q : Nat, zW p l e R s m args below meth c Q D cl A nL (cells + 1) (slots + N) (ws ++ [(q, .inl (cA, N, .inl (fun _ => 0)))]) lv (pc + 2) (.ref q :: st)) : zW p l e R s m args below meth c Q D cl A nL cells slots ws lv pc (.int n :: st) := by
  intro H locs ls hP hD hS hl
  have hb8 : N * componentBytes FieldType.int ≤ 536870912 := Nat.le_trans (Nat.mul_le_mul hb9 (show componentBytes FieldType.int ≤ 8 by decide)) (by decide)
  refine va_newa (atype := .int) (ty := .int) (a0 := (N, .inl (fun _ => 0))) C.1 C.2.1 (C.2.2.2.2.1 _ harr) rfl C.2.2.2.2.2.1 hP hD hS C.2.2.2.2.2.2.1 (fun cA => rfl) hn hN hb8 hR.1 hR.2 hdg (fun q c9 H1 hK1 hP1 hD1 hS1 => ?_)
  have e9 : c9 = cA := by
    have g1 := (hK1.2 tys.length (c9, .int) (by simp)).2
    have g2 := (C.2.2.2.2.2.1.2 t0 (cA, .int) ht).2
    exact z_ncls g1 g2 rfl
  subst e9
  exact kk q H1 locs ls hP1 hD1 hS1 hl
theorem z_newaZ (C : zK sa D cl tys A p s m args meth c cc nL own Ts ret) {cA : ClassId} (harr : Cond.arrayClass .boolean ∈ Ts) (t0 : Nat) (ht : tys[t0]? = some (cA, .boolean)) {n : Int32} {N : Nat} (hn : ¬ n < 0) (hN : n.toNatClampNeg = N) (hb9 : N ≤ 1000) (hR : cells + 1 ≤ R.cells ∧ slots + N ≤ R.slots) (hdg : decode cc pc = .ok (.newarray .boolean, 2))
    (kk : ∀ q : Nat, zW p l e R s m args below meth c Q D cl A nL (cells + 1) (slots + N) (ws ++ [(q, .inl (cA, N, .inl (fun _ => 0)))]) lv (pc + 2) (.ref q :: st)) : zW p l e R s m args below meth c Q D cl A nL cells slots ws lv pc (.int n :: st) := by
  intro H locs ls hP hD hS hl
  have hb8 : N * componentBytes FieldType.boolean ≤ 536870912 := Nat.le_trans (Nat.mul_le_mul hb9 (show componentBytes FieldType.boolean ≤ 8 by decide)) (by decide)
  refine va_newa (atype := .boolean) (ty := .boolean) (a0 := (N, .inl (fun _ => 0))) C.1 C.2.1 (C.2.2.2.2.1 _ harr) rfl C.2.2.2.2.2.1 hP hD hS C.2.2.2.2.2.2.1 (fun cA => rfl) hn hN hb8 hR.1 hR.2 hdg (fun q c9 H1 hK1 hP1 hD1 hS1 => ?_)
  have e9 : c9 = cA := by
    have g1 := (hK1.2 tys.length (c9, .boolean) (by simp)).2
    have g2 := (C.2.2.2.2.2.1.2 t0 (cA, .boolean) ht).2
    exact z_ncls g1 g2 rfl
  subst e9
  exact kk q H1 locs ls hP1 hD1 hS1 hl
theorem z_newaL (C : zK sa D cl tys A p s m args meth c cc nL own Ts ret) {cA : ClassId} (harr : Cond.arrayClass .long ∈ Ts) (t0 : Nat) (ht : tys[t0]? = some (cA, .long)) {n : Int32} {N : Nat} (hn : ¬ n < 0) (hN : n.toNatClampNeg = N) (hb9 : N ≤ 1000) (hR : cells + 1 ≤ R.cells ∧ slots + N ≤ R.slots) (hdg : decode cc pc = .ok (.newarray .long, 2))
    (kk : ∀ q : Nat, zW p l e R s m args below meth c Q D cl A nL (cells + 1) (slots + N) (ws ++ [(q, .inl (cA, N, .inr (.inl (fun _ => 0))))]) lv (pc + 2) (.ref q :: st)) : zW p l e R s m args below meth c Q D cl A nL cells slots ws lv pc (.int n :: st) := by
  intro H locs ls hP hD hS hl
  have hb8 : N * componentBytes FieldType.long ≤ 536870912 := Nat.le_trans (Nat.mul_le_mul hb9 (show componentBytes FieldType.long ≤ 8 by decide)) (by decide)
  refine va_newa (atype := .long) (ty := .long) (a0 := (N, .inr (.inl (fun _ => 0)))) C.1 C.2.1 (C.2.2.2.2.1 _ harr) rfl C.2.2.2.2.2.1 hP hD hS C.2.2.2.2.2.2.1 (fun cA => rfl) hn hN hb8 hR.1 hR.2 hdg (fun q c9 H1 hK1 hP1 hD1 hS1 => ?_)
  have e9 : c9 = cA := by
    have g1 := (hK1.2 tys.length (c9, .long) (by simp)).2
    have g2 := (C.2.2.2.2.2.1.2 t0 (cA, .long) ht).2
    exact z_ncls g1 g2 rfl
  subst e9
  exact kk q H1 locs ls hP1 hD1 hS1 hl
theorem z_copy (C : zK sa D cl tys A p s m args meth c cc nL own Ts ret) {index : Nat} (h1 : Cond.methodLink own index arraycopyName ∈ Ts) (h2 : Cond.native arraycopyName ∈ Ts) (h3 : Cond.static arraycopyName ∈ Ts) (h4 : Cond.initialized "java/lang/System" ∈ Ts) (q0 q1 : Nat) {a a0 : Nat} {c0 : ClassId} {n0 n1 : Nat} {f g : Nat → Int32} (ha0 : ws[q0]? = some (a0, .inl (c0, n0, .inl f))) (ha1 : ws[q1]? = some (a, .inl (c0, n1, .inl g))) (ht0 : tys[0]? = some (c0, .int))
    {sp dp n : Int32} (hs1 : ¬ sp < 0) (hs2 : ¬ dp < 0) (hs3 : ¬ n < 0) {sp' dp' n' : Nat} (e1 : sp.toNatClampNeg = sp') (e2 : dp.toNatClampNeg = dp') (e3 : n.toNatClampNeg = n') (h5 : sp' + n' ≤ n0) (h6 : dp' + n' ≤ n1) (hR : 1 ≤ R.frames ∧ (st.map fun v => v.category).sum + (nativeFrameWords "java/lang/System" "arraycopy" 5 + 11) ≤ R.locals) (hdg : decode cc pc = .ok (.invokestatic index, 3)) (ws' : va_W) (hw : ws.set q1 (a, .inl (c0, n1, .inl (va_cpy f g sp' dp' n'))) = ws')
    (kk : zW p l e R s m args below meth c Q D cl A nL cells slots ws' lv (pc + 3) st) : zW p l e R s m args below meth c Q D cl A nL cells slots ws lv pc (.int n :: .int dp :: .ref a :: .int sp :: .ref a0 :: st) := by
  subst e1; subst e2; subst e3; subst hw
  exact fun H locs ls hP hD hS hl => va_copyi C.1 C.2.1 (by rw [C.2.2.1]; exact hl.1.symm) C.2.2.2.1 (C.2.2.2.2.1 _ h1) (C.2.2.2.2.1 _ h2) (C.2.2.2.2.1 _ h3) (C.2.2.2.2.1 _ h4) C.2.2.2.2.2.1 hP hD hS q0 q1 0 0 ha0 ha1 ht0 ht0 rfl hs1 hs2 hs3 h5 h6 (fun _ _ => rfl) hR.1 hR.2 hdg (fun H1 locs1 hP1 hD1 hS1 => kk H1 locs1 ls hP1 hD1 hS1 hl)
theorem z_cmp_eq {x y : Int64} : lg_cmp x y = 0 ↔ x = y := by
  unfold lg_cmp
  constructor
  · intro h
    by_cases h1 : y < x
    · rw [if_pos h1] at h; exact absurd h (by decide)
    · rw [if_neg h1] at h
      by_cases h2 : x < y
      · simp [h2] at h
        have h9 : x ≠ y := fun e => Int64.lt_irrefl (e ▸ h2)
        simp [h9] at h
      · exact Int64.le_antisymm (Int64.not_lt.mp h1) (Int64.not_lt.mp h2)
  · intro h
    subst h
    simp
theorem z_cmp_lt {x y : Int64} : lg_cmp x y < 0 ↔ x < y := by
  unfold lg_cmp
  constructor
  · intro h
    by_cases h1 : y < x
    · rw [if_pos h1] at h; exact absurd h (by decide)
    · rw [if_neg h1] at h
      by_cases h2 : x = y
      · rw [if_pos h2] at h; exact absurd h (by decide)
      · rcases Int64.lt_or_le x y with q | q
        · exact q
        · exact absurd (Int64.le_antisymm (Int64.not_lt.mp h1) q) h2
  · intro h
    have h1 : ¬ y < x := Int64.lt_asymm h
    have h2 : ¬ x = y := fun e => Int64.lt_irrefl (e ▸ h)
    rw [if_neg h1, if_neg h2]; decide
theorem z_lcmp_eq (C : zK sa D cl tys A p s m args meth c cc nL own Ts ret) {x y : Int64} {off : Int} {tgt : Nat} (hdg : decode cc pc = .ok (.lcmp, 1)) (hdg2 : decode cc (pc + 1) = .ok (.ifCond .eq off, 3)) (ht : ((pc + 1 : Nat) : Int) + off = (tgt : Int)) (kt : x = y → zW p l e R s m args below meth c Q D cl A nL cells slots ws lv tgt st) (kf : ¬ x = y → zW p l e R s m args below meth c Q D cl A nL cells slots ws lv (pc + 1 + 3) st) : zW p l e R s m args below meth c Q D cl A nL cells slots ws lv pc (.long y :: .long x :: st) :=
  fun H locs ls hP hD hS hl => W.lcmp C.1 C.2.1 hdg (lv_if_eq C.1 C.2.1 hdg2 ht (fun q => kt (z_cmp_eq.mp q) H locs ls hP hD hS hl) (fun q => kf (fun r => q (z_cmp_eq.mpr r)) H locs ls hP hD hS hl))
theorem z_lcmp_ne (C : zK sa D cl tys A p s m args meth c cc nL own Ts ret) {x y : Int64} {off : Int} {tgt : Nat} (hdg : decode cc pc = .ok (.lcmp, 1)) (hdg2 : decode cc (pc + 1) = .ok (.ifCond .ne off, 3)) (ht : ((pc + 1 : Nat) : Int) + off = (tgt : Int)) (kt : ¬ x = y → zW p l e R s m args below meth c Q D cl A nL cells slots ws lv tgt st) (kf : x = y → zW p l e R s m args below meth c Q D cl A nL cells slots ws lv (pc + 1 + 3) st) : zW p l e R s m args below meth c Q D cl A nL cells slots ws lv pc (.long y :: .long x :: st) :=
  fun H locs ls hP hD hS hl => W.lcmp C.1 C.2.1 hdg (lv_if_ne C.1 C.2.1 hdg2 ht (fun q => kt (fun r => q (z_cmp_eq.mpr r)) H locs ls hP hD hS hl) (fun q => kf (z_cmp_eq.mp q) H locs ls hP hD hS hl))
theorem z_lcmp_lt (C : zK sa D cl tys A p s m args meth c cc nL own Ts ret) {x y : Int64} {off : Int} {tgt : Nat} (hdg : decode cc pc = .ok (.lcmp, 1)) (hdg2 : decode cc (pc + 1) = .ok (.ifCond .lt off, 3)) (ht : ((pc + 1 : Nat) : Int) + off = (tgt : Int)) (kt : x < y → zW p l e R s m args below meth c Q D cl A nL cells slots ws lv tgt st) (kf : ¬ x < y → zW p l e R s m args below meth c Q D cl A nL cells slots ws lv (pc + 1 + 3) st) : zW p l e R s m args below meth c Q D cl A nL cells slots ws lv pc (.long y :: .long x :: st) :=
  fun H locs ls hP hD hS hl => W.lcmp C.1 C.2.1 hdg (lv_if_lt C.1 C.2.1 hdg2 ht (fun q => kt (z_cmp_lt.mp q) H locs ls hP hD hS hl) (fun q => kf (fun r => q (z_cmp_lt.mpr r)) H locs ls hP hD hS hl))
theorem z_lcmp_ge (C : zK sa D cl tys A p s m args meth c cc nL own Ts ret) {x y : Int64} {off : Int} {tgt : Nat} (hdg : decode cc pc = .ok (.lcmp, 1)) (hdg2 : decode cc (pc + 1) = .ok (.ifCond .ge off, 3)) (ht : ((pc + 1 : Nat) : Int) + off = (tgt : Int)) (kt : ¬ x < y → zW p l e R s m args below meth c Q D cl A nL cells slots ws lv tgt st) (kf : x < y → zW p l e R s m args below meth c Q D cl A nL cells slots ws lv (pc + 1 + 3) st) : zW p l e R s m args below meth c Q D cl A nL cells slots ws lv pc (.long y :: .long x :: st) :=
  fun H locs ls hP hD hS hl => W.lcmp C.1 C.2.1 hdg (lv_if_ge C.1 C.2.1 hdg2 ht (fun q => kt (fun r => absurd (z_cmp_lt.mpr r) (Int32.not_lt.mpr q)) H locs ls hP hD hS hl) (fun q => kf (z_cmp_lt.mp (Int32.not_le.mp q)) H locs ls hP hD hS hl))
end ZS
end
