theorem m_L_cell_k7 : Cond.constant RL 7 (1518091569) ∈ wsL_cell := by decide +kernel
theorem m_L_call_c14 : Cond.classLink RL 14 "java/lang/IndexOutOfBoundsException" ∈ wsL_call := by decide +kernel
theorem m_L_call_k16 : Cond.constant RL 16 (-2000000021) ∈ wsL_call := by decide +kernel
def smF (x n : Int32) : Int32 := (x.toUInt32 >>> ((1 : Int32).toUInt32 &&& Int32.toUInt32 31)).toInt32 - (x.toUInt32 >>> ((1 : Int32).toUInt32 &&& Int32.toUInt32 31)).toInt32 / n * n
def cellF (v : Int32) (j : Nat) : Int32 := (v ^^^ (v.toUInt32 >>> ((14 : Int32).toUInt32 &&& Int32.toUInt32 31)).toInt32) * 1518091569 + nI (j * 133)
theorem z_rem5 {k : Nat} (h : k < 70) : nI k - nI k / 5 * 5 = nI (k % 5) := by
  have : ∀ k, k < 70 → nI k - nI k / 5 * 5 = nI (k % 5) := by decide
  exact this k h
section
variable {p : Program} {l : Launch} {e : Env} {R : Room} {s : State} {m : MethodId} {args : Array Value} {below : List Frame} {meth : Method} {c : Code} {Q : State → Prop} {D : va_G} {cl : List vw_C} {A : Nat → Prop} {nL cn cells slots : Nat} {ws : va_W} {lv : List (Nat × Value)} {pc : Nat} {st : List Value}
theorem z_cn {cn' : Nat} (h : cn' ≤ cn) (kk : zW cn' p l e R s m args below meth c Q D cl A nL cells slots ws lv pc st) : zW cn p l e R s m args below meth c Q D cl A nL cells slots ws lv pc st :=
  fun H locs ls hP hD hS hl => kk H locs ls hP hD ⟨hS.1, by have := hS.2; omega⟩ hl
end
set_option maxHeartbeats 4000000 in
set_option maxRecDepth 100000 in
theorem c_L_some (l : Launch) (sa : Nat → Nat) (D : va_G) (cI cZ cL : ClassId)  (x : Int32) (n : Int32) (hn : ¬ n = 0) : zMi (T := Unit) sa D vwCl (zty cI cZ cL) l yL_some wsL_some ({ frames := 0, cells := 0, slots := 0, locals := 0 } : Room) [.int x, .int n] [] (fun r9 _ => r9 = (smF x n)) (fun _ => []) 0 0 := by
  refine zMi.of (ret := (some .int)) (cc := cL_some) (nL := 2) (own := RL) (by decide +kernel) rfl [(0, .int x), (1, .int n)] rfl (Nat.le_of_ble_eq_true rfl) rfl ?_
  intro A p e s m args below meth c C hmn
  refine z_iload_n C dL_some_0 rfl 0 rfl ?_
  refine z_iconst C (v := 1) dL_some_1 (by decide) ?_
  refine z_iushr C (v := ((x.toUInt32 >>> ((1 : Int32).toUInt32 &&& Int32.toUInt32 31)).toInt32)) dL_some_2 rfl ?_
  refine z_iload_n C dL_some_3 rfl 1 rfl ?_
  refine z_irem C (v := (((x.toUInt32 >>> ((1 : Int32).toUInt32 &&& Int32.toUInt32 31)).toInt32) - ((x.toUInt32 >>> ((1 : Int32).toUInt32 &&& Int32.toUInt32 31)).toInt32) / n * n)) dL_some_4 (by assumption) rfl ?_
  exact z_iret C () rfl rfl (by decide) (by decide) dL_some_5
set_option maxHeartbeats 4000000 in
set_option maxRecDepth 100000 in
theorem c_L_cell (l : Launch) (sa : Nat → Nat) (D : va_G) (cI cZ cL : ClassId) (sb : Nat) (xs : Nat → Int32) (j : Nat) (hj : j < 140) : zMi (T := Unit) sa D vwCl (zty cI cZ cL) l yL_cell wsL_cell ({ frames := 0, cells := 0, slots := 0, locals := 0 } : Room) [.ref sb, .int (nI j)] [(sb, .inl (cI, 140, .inl xs))] (fun r9 _ => r9 = (cellF (xs j) j)) (fun _ => [(sb, .inl (cI, 140, .inl xs))]) 0 0 := by
  refine zMi.of (ret := (some .int)) (cc := cL_cell) (nL := 3) (own := RL) (by decide +kernel) rfl [(0, .ref sb), (1, .int (nI j))] rfl (Nat.le_of_ble_eq_true rfl) rfl ?_
  intro A p e s m args below meth c C hmn
  refine z_iload_n C dL_cell_0 rfl 1 rfl ?_
  refine z_aload_n C dL_cell_1 rfl 0 rfl ?_
  refine z_ialen C 0 rfl 0 rfl (v := 140) rfl dL_cell_2 ?_
  refine z_icmp_ge C (tgt := 12) dL_cell_3 (by decide) (fun c3_1 => ?_) (fun c3_1 => ?_)
  · skip
    have n_2 : 140 ≤ j := (nI_leI (a := 140) (b := j) (by omega) (by omega)).mp c3_1
    exfalso
    omega
  · skip
    have n_3 : ¬ 140 ≤ j := fun q => c3_1 ((nI_leI (a := 140) (b := j) (by omega) (by omega)).mpr q)
    refine z_aload_n C dL_cell_6 rfl 0 rfl ?_
    refine z_iload_n C dL_cell_7 rfl 1 rfl ?_
    refine z_iald C 0 0 rfl rfl j (nI_clamp (by omega)) (vp_in_nI (by omega) (by omega)) (xs j) rfl dL_cell_8 ?_
    refine z_goto C (tgt := 20) dL_cell_9 (by decide) ?_
    refine z_istore_n C dL_cell_20 rfl (by decide) [(0, .ref sb), (1, .int (nI j)), (2, .int (xs j))] [1, 2, 0] rfl ?_
    refine z_iload_n C dL_cell_21 rfl 2 rfl ?_
    refine z_iload_n C dL_cell_22 rfl 2 rfl ?_
    refine z_bipush C (v := 14) dL_cell_23 (by decide) ?_
    refine z_iushr C (v := (((xs j).toUInt32 >>> ((14 : Int32).toUInt32 &&& Int32.toUInt32 31)).toInt32)) dL_cell_25 rfl ?_
    refine z_ixor C (v := ((xs j) ^^^ (((xs j).toUInt32 >>> ((14 : Int32).toUInt32 &&& Int32.toUInt32 31)).toInt32))) dL_cell_26 rfl ?_
    refine z_ldc C m_L_cell_k7 dL_cell_27 ?_
    refine z_imul C (v := (((xs j) ^^^ (((xs j).toUInt32 >>> ((14 : Int32).toUInt32 &&& Int32.toUInt32 31)).toInt32)) * 1518091569)) dL_cell_29 rfl ?_
    refine z_sipush C (v := 133) dL_cell_30 (by decide) ?_
    refine z_iload_n C dL_cell_33 rfl 1 rfl ?_
    refine z_imul C (v := (nI (j * 133))) dL_cell_34 (z_mulc 133 j) ?_
    refine z_iadd C (v := ((((xs j) ^^^ (((xs j).toUInt32 >>> ((14 : Int32).toUInt32 &&& Int32.toUInt32 31)).toInt32)) * 1518091569) + (nI (j * 133)))) dL_cell_35 rfl ?_
    exact z_iret C () rfl rfl (by decide) (by decide) dL_cell_36
set_option maxHeartbeats 4000000 in
set_option maxRecDepth 100000 in
theorem does_account (l : Launch) (hfl : l.stackTraces = false) (sa : Nat → Nat) (D : va_G) (cI cZ cL : ClassId) (ad : Nat → Nat) (tacc tnet cnd : Nat → Int32)   : zX sa D vwCl (zty cI cZ cL) l yL_does wsL_does ({ frames := 8, cells := 1, slots := 6, locals := 123 } : Room) [.ref (ad 0), .int 4, .int 5, .int 0, .int 0, .int 0] (wX ad cI cZ (fun _ => 0) (fun _ => 0) tacc tnet (fun _ => 0) (bnI 25) (fun _ => 0) (fun _ => 0) (fun _ => 0) (fun _ => 0) (fun _ => 0) (fun _ => 0) (fun _ => 0) (fun _ => 0) (fun _ => 0) (fun _ => 0) (fun _ => 0) (fun _ => 0) cnd 100 100 200 0 (nI 0) (nI 0) (nI 0)) "java/lang/IndexOutOfBoundsException" 1 6 := by
  refine zX.of (ret := (some .int)) (cc := cL_does) (nL := 6) (own := RL) (by decide +kernel) rfl [(0, .ref (ad 0)), (1, .int 4), (2, .int 5), (3, .int 0), (4, .int 0), (5, .int 0)] rfl (Nat.le_of_ble_eq_true rfl) rfl ?_
  intro A p e s m args below meth c C hmn ht
  refine z_iload_n C dL_does_0 rfl 1 rfl ?_
  refine z_tabIn C (x := 4) (off := 101) (tgt := 102) dL_does_1 (by decide) (by decide) (by decide) (by decide) ?_
  refine z_aload_n C dL_does_102 rfl 0 rfl ?_
  refine z_iload_n C dL_does_103 rfl 2 rfl ?_
  refine z_callVx C (As := [.int 5]) (rest := []) (c_X4_account_b1 l hfl sa D cI cZ cL ad (fun _ => 0) (fun _ => 0) tacc tnet (fun _ => 0) (bnI 25) (fun _ => 0) (fun _ => 0) (fun _ => 0) (fun _ => 0) (fun _ => 0) (fun _ => 0) (fun _ => 0) (fun _ => 0) (fun _ => 0) (fun _ => 0) (fun _ => 0) (fun _ => 0) cnd 100 100 200 0 0 0 0 5 (by first | omega | decide)) (cwV 1 C.2.2.2.2.1 gL_does_X4_account rfl rfl rfl (by decide +kernel) ⟨Nat.le_of_ble_eq_true rfl, Nat.le_of_ble_eq_true rfl⟩) 0 rfl rfl rfl zSub.full rfl (Nat.le_of_ble_eq_true rfl) ⟨Nat.le_of_ble_eq_true rfl, Nat.le_of_ble_eq_true rfl⟩ dL_does_104 ?_
  exact z_out C ht (by decide) (by decide)
set_option maxHeartbeats 4000000 in
set_option maxRecDepth 100000 in
theorem call_account (l : Launch) (hfl : l.stackTraces = false) (sa : Nat → Nat) (D : va_G) (cI cZ cL : ClassId) (ad : Nat → Nat) (tacc tnet cnd : Nat → Int32)   : zNi (T := Unit) 1 sa D vwCl (zty cI cZ cL) l yL_call wsL_call ({ frames := 9, cells := 1, slots := 6, locals := 148 } : Room) [.ref (ad 0), .int 4, .int 5, .int 0, .int 0, .int 0] (wX ad cI cZ (fun _ => 0) (fun _ => 0) tacc tnet (fun _ => 0) (bnI 25) (fun _ => 0) (fun _ => 0) (fun _ => 0) (fun _ => 0) (fun _ => 0) (fun _ => 0) (fun _ => 0) (fun _ => 0) (fun _ => 0) (fun _ => 0) (fun _ => 0) (fun _ => 0) cnd 100 100 200 0 (nI 0) (nI 0) (nI 0)) (fun r9 _ => r9 = (-2000000021)) (fun _ => (wX ad cI cZ (fun _ => 0) (fun _ => 0) tacc tnet (fun _ => 0) (bnI 25) (fun _ => 0) (fun _ => 0) (fun _ => 0) (fun _ => 0) (fun _ => 0) (fun _ => 0) (fun _ => 0) (fun _ => 0) (fun _ => 0) (fun _ => 0) (fun _ => 0) (fun _ => 0) cnd 100 100 200 0 (nI 0) (nI 0) (nI 0))) 1 6 := by
  refine zNi.ofH (ret := (some .int)) (cc := cL_call) (nL := 7) (own := RL) (by decide +kernel) rfl [(0, .ref (ad 0)), (1, .int 4), (2, .int 5), (3, .int 0), (4, .int 0), (5, .int 0)] rfl (Nat.le_of_ble_eq_true rfl) rfl ?_
  intro A p e s m args below meth c C hmn htab
  refine z_aload_n C dL_call_0 rfl 0 rfl ?_
  refine z_iload_n C dL_call_1 rfl 1 rfl ?_
  refine z_iload_n C dL_call_2 rfl 2 rfl ?_
  refine z_iload_n C dL_call_3 rfl 3 rfl ?_
  refine z_iload C dL_call_4 4 rfl ?_
  refine z_iload C dL_call_6 5 rfl ?_
  refine z_callSx C (As := [.ref (ad 0), .int 4, .int 5, .int 0, .int 0, .int 0]) (rest := []) (does_account l hfl sa D cI cZ cL ad tacc tnet cnd  ) (va_cwS 6 C.2.2.2.2.1 gL_call_L_does rfl rfl rfl (by decide +kernel) ⟨Nat.le_of_ble_eq_true rfl, Nat.le_of_ble_eq_true rfl⟩) zSub.full rfl (Nat.le_of_ble_eq_true rfl) ⟨Nat.le_of_ble_eq_true rfl, Nat.le_of_ble_eq_true rfl⟩ dL_call_8 ?_
  refine z_catch (E := "java/lang/IndexOutOfBoundsException") (name := "java/lang/IndexOutOfBoundsException") C [] ⟨0, 11, 12, 14⟩ [⟨0, 11, 17, 17⟩, ⟨0, 11, 22, 20⟩] htab (fun z hz => absurd hz List.not_mem_nil) (by decide) (by decide) m_L_call_c14 (by decide) rfl (fun q_1 => ?_)
  refine z_astore C dL_call_12 (by decide) [(0, .ref (ad 0)), (1, .int 4), (2, .int 5), (3, .int 0), (4, .int 0), (5, .int 0), (6, .ref q_1)] [1, 2, 3, 4, 5, 6, 0] rfl ?_
  refine z_ldc C m_L_call_k16 dL_call_14 ?_
  exact z_iretn C () (by omega) rfl rfl (by decide) (by decide) dL_call_16
set_option maxHeartbeats 4000000 in
set_option maxRecDepth 100000 in
theorem does_papers (l : Launch) (hfl : l.stackTraces = false) (sa : Nat → Nat) (D : va_G) (cI cZ cL : ClassId) (ad : Nat → Nat) (tacc tnet cnd : Nat → Int32)   : zX sa D vwCl (zty cI cZ cL) l yL_does wsL_does ({ frames := 8, cells := 1, slots := 6, locals := 123 } : Room) [.ref (ad 0), .int 5, .int (-1), .int 0, .int 0, .int 0] (wX ad cI cZ (fun _ => 0) (fun _ => 0) tacc tnet (fun _ => 0) (bnI 25) (fun _ => 0) (fun _ => 0) (fun _ => 0) (fun _ => 0) (fun _ => 0) (fun _ => 0) (fun _ => 0) (fun _ => 0) (fun _ => 0) (fun _ => 0) (fun _ => 0) (fun _ => 0) cnd 100 100 200 0 (nI 0) (nI 0) (nI 0)) "java/lang/IndexOutOfBoundsException" 1 6 := by
  refine zX.of (ret := (some .int)) (cc := cL_does) (nL := 6) (own := RL) (by decide +kernel) rfl [(0, .ref (ad 0)), (1, .int 5), (2, .int (-1)), (3, .int 0), (4, .int 0), (5, .int 0)] rfl (Nat.le_of_ble_eq_true rfl) rfl ?_
  intro A p e s m args below meth c C hmn ht
  refine z_iload_n C dL_does_0 rfl 1 rfl ?_
  refine z_tabIn C (x := 5) (off := 107) (tgt := 108) dL_does_1 (by decide) (by decide) (by decide) (by decide) ?_
  refine z_aload_n C dL_does_108 rfl 0 rfl ?_
  refine z_iload_n C dL_does_109 rfl 2 rfl ?_
  refine z_callVx C (As := [.int (-1)]) (rest := []) (c_X4_papers_b1 l hfl sa D cI cZ cL ad (fun _ => 0) (fun _ => 0) tacc tnet (fun _ => 0) (bnI 25) (fun _ => 0) (fun _ => 0) (fun _ => 0) (fun _ => 0) (fun _ => 0) (fun _ => 0) (fun _ => 0) (fun _ => 0) (fun _ => 0) (fun _ => 0) (fun _ => 0) (fun _ => 0) cnd 100 100 200 0 0 0 0 (-1) (by first | omega | decide)) (cwV 1 C.2.2.2.2.1 gL_does_X4_papers rfl rfl rfl (by decide +kernel) ⟨Nat.le_of_ble_eq_true rfl, Nat.le_of_ble_eq_true rfl⟩) 0 rfl rfl rfl zSub.full rfl (Nat.le_of_ble_eq_true rfl) ⟨Nat.le_of_ble_eq_true rfl, Nat.le_of_ble_eq_true rfl⟩ dL_does_110 ?_
  exact z_out C ht (by decide) (by decide)
set_option maxHeartbeats 4000000 in
set_option maxRecDepth 100000 in
theorem call_papers (l : Launch) (hfl : l.stackTraces = false) (sa : Nat → Nat) (D : va_G) (cI cZ cL : ClassId) (ad : Nat → Nat) (tacc tnet cnd : Nat → Int32)   : zNi (T := Unit) 1 sa D vwCl (zty cI cZ cL) l yL_call wsL_call ({ frames := 9, cells := 1, slots := 6, locals := 148 } : Room) [.ref (ad 0), .int 5, .int (-1), .int 0, .int 0, .int 0] (wX ad cI cZ (fun _ => 0) (fun _ => 0) tacc tnet (fun _ => 0) (bnI 25) (fun _ => 0) (fun _ => 0) (fun _ => 0) (fun _ => 0) (fun _ => 0) (fun _ => 0) (fun _ => 0) (fun _ => 0) (fun _ => 0) (fun _ => 0) (fun _ => 0) (fun _ => 0) cnd 100 100 200 0 (nI 0) (nI 0) (nI 0)) (fun r9 _ => r9 = (-2000000021)) (fun _ => (wX ad cI cZ (fun _ => 0) (fun _ => 0) tacc tnet (fun _ => 0) (bnI 25) (fun _ => 0) (fun _ => 0) (fun _ => 0) (fun _ => 0) (fun _ => 0) (fun _ => 0) (fun _ => 0) (fun _ => 0) (fun _ => 0) (fun _ => 0) (fun _ => 0) (fun _ => 0) cnd 100 100 200 0 (nI 0) (nI 0) (nI 0))) 1 6 := by
  refine zNi.ofH (ret := (some .int)) (cc := cL_call) (nL := 7) (own := RL) (by decide +kernel) rfl [(0, .ref (ad 0)), (1, .int 5), (2, .int (-1)), (3, .int 0), (4, .int 0), (5, .int 0)] rfl (Nat.le_of_ble_eq_true rfl) rfl ?_
  intro A p e s m args below meth c C hmn htab
  refine z_aload_n C dL_call_0 rfl 0 rfl ?_
  refine z_iload_n C dL_call_1 rfl 1 rfl ?_
  refine z_iload_n C dL_call_2 rfl 2 rfl ?_
  refine z_iload_n C dL_call_3 rfl 3 rfl ?_
  refine z_iload C dL_call_4 4 rfl ?_
  refine z_iload C dL_call_6 5 rfl ?_
  refine z_callSx C (As := [.ref (ad 0), .int 5, .int (-1), .int 0, .int 0, .int 0]) (rest := []) (does_papers l hfl sa D cI cZ cL ad tacc tnet cnd  ) (va_cwS 6 C.2.2.2.2.1 gL_call_L_does rfl rfl rfl (by decide +kernel) ⟨Nat.le_of_ble_eq_true rfl, Nat.le_of_ble_eq_true rfl⟩) zSub.full rfl (Nat.le_of_ble_eq_true rfl) ⟨Nat.le_of_ble_eq_true rfl, Nat.le_of_ble_eq_true rfl⟩ dL_call_8 ?_
  refine z_catch (E := "java/lang/IndexOutOfBoundsException") (name := "java/lang/IndexOutOfBoundsException") C [] ⟨0, 11, 12, 14⟩ [⟨0, 11, 17, 17⟩, ⟨0, 11, 22, 20⟩] htab (fun z hz => absurd hz List.not_mem_nil) (by decide) (by decide) m_L_call_c14 (by decide) rfl (fun q_1 => ?_)
  refine z_astore C dL_call_12 (by decide) [(0, .ref (ad 0)), (1, .int 5), (2, .int (-1)), (3, .int 0), (4, .int 0), (5, .int 0), (6, .ref q_1)] [1, 2, 3, 4, 5, 6, 0] rfl ?_
  refine z_ldc C m_L_call_k16 dL_call_14 ?_
  exact z_iretn C () (by omega) rfl rfl (by decide) (by decide) dL_call_16
set_option maxHeartbeats 4000000 in
set_option maxRecDepth 100000 in
theorem does_isOpen (l : Launch) (hfl : l.stackTraces = false) (sa : Nat → Nat) (D : va_G) (cI cZ cL : ClassId) (ad : Nat → Nat) (tacc tnet cnd : Nat → Int32)   : zX sa D vwCl (zty cI cZ cL) l yL_does wsL_does ({ frames := 8, cells := 1, slots := 6, locals := 123 } : Room) [.ref (ad 0), .int 6, .int 5, .int 0, .int 0, .int 0] (wX ad cI cZ (fun _ => 0) (fun _ => 0) tacc tnet (fun _ => 0) (bnI 25) (fun _ => 0) (fun _ => 0) (fun _ => 0) (fun _ => 0) (fun _ => 0) (fun _ => 0) (fun _ => 0) (fun _ => 0) (fun _ => 0) (fun _ => 0) (fun _ => 0) (fun _ => 0) cnd 100 100 200 0 (nI 0) (nI 0) (nI 0)) "java/lang/IndexOutOfBoundsException" 1 6 := by
  refine zX.of (ret := (some .int)) (cc := cL_does) (nL := 6) (own := RL) (by decide +kernel) rfl [(0, .ref (ad 0)), (1, .int 6), (2, .int 5), (3, .int 0), (4, .int 0), (5, .int 0)] rfl (Nat.le_of_ble_eq_true rfl) rfl ?_
  intro A p e s m args below meth c C hmn ht
  refine z_iload_n C dL_does_0 rfl 1 rfl ?_
  refine z_tabIn C (x := 6) (off := 113) (tgt := 114) dL_does_1 (by decide) (by decide) (by decide) (by decide) ?_
  refine z_aload_n C dL_does_114 rfl 0 rfl ?_
  refine z_iload_n C dL_does_115 rfl 2 rfl ?_
  refine z_callVx C (As := [.int 5]) (rest := []) (c_X4_isOpen_b1 l hfl sa D cI cZ cL ad (fun _ => 0) (fun _ => 0) tacc tnet (fun _ => 0) (bnI 25) (fun _ => 0) (fun _ => 0) (fun _ => 0) (fun _ => 0) (fun _ => 0) (fun _ => 0) (fun _ => 0) (fun _ => 0) (fun _ => 0) (fun _ => 0) (fun _ => 0) (fun _ => 0) cnd 100 100 200 0 0 0 0 5 (by first | omega | decide)) (cwV 1 C.2.2.2.2.1 gL_does_X4_isOpen rfl rfl rfl (by decide +kernel) ⟨Nat.le_of_ble_eq_true rfl, Nat.le_of_ble_eq_true rfl⟩) 0 rfl rfl rfl zSub.full rfl (Nat.le_of_ble_eq_true rfl) ⟨Nat.le_of_ble_eq_true rfl, Nat.le_of_ble_eq_true rfl⟩ dL_does_116 ?_
  exact z_out C ht (by decide) (by decide)
set_option maxHeartbeats 4000000 in
set_option maxRecDepth 100000 in
theorem call_isOpen (l : Launch) (hfl : l.stackTraces = false) (sa : Nat → Nat) (D : va_G) (cI cZ cL : ClassId) (ad : Nat → Nat) (tacc tnet cnd : Nat → Int32)   : zNi (T := Unit) 1 sa D vwCl (zty cI cZ cL) l yL_call wsL_call ({ frames := 9, cells := 1, slots := 6, locals := 148 } : Room) [.ref (ad 0), .int 6, .int 5, .int 0, .int 0, .int 0] (wX ad cI cZ (fun _ => 0) (fun _ => 0) tacc tnet (fun _ => 0) (bnI 25) (fun _ => 0) (fun _ => 0) (fun _ => 0) (fun _ => 0) (fun _ => 0) (fun _ => 0) (fun _ => 0) (fun _ => 0) (fun _ => 0) (fun _ => 0) (fun _ => 0) (fun _ => 0) cnd 100 100 200 0 (nI 0) (nI 0) (nI 0)) (fun r9 _ => r9 = (-2000000021)) (fun _ => (wX ad cI cZ (fun _ => 0) (fun _ => 0) tacc tnet (fun _ => 0) (bnI 25) (fun _ => 0) (fun _ => 0) (fun _ => 0) (fun _ => 0) (fun _ => 0) (fun _ => 0) (fun _ => 0) (fun _ => 0) (fun _ => 0) (fun _ => 0) (fun _ => 0) (fun _ => 0) cnd 100 100 200 0 (nI 0) (nI 0) (nI 0))) 1 6 := by
  refine zNi.ofH (ret := (some .int)) (cc := cL_call) (nL := 7) (own := RL) (by decide +kernel) rfl [(0, .ref (ad 0)), (1, .int 6), (2, .int 5), (3, .int 0), (4, .int 0), (5, .int 0)] rfl (Nat.le_of_ble_eq_true rfl) rfl ?_
  intro A p e s m args below meth c C hmn htab
  refine z_aload_n C dL_call_0 rfl 0 rfl ?_
  refine z_iload_n C dL_call_1 rfl 1 rfl ?_
  refine z_iload_n C dL_call_2 rfl 2 rfl ?_
  refine z_iload_n C dL_call_3 rfl 3 rfl ?_
  refine z_iload C dL_call_4 4 rfl ?_
  refine z_iload C dL_call_6 5 rfl ?_
  refine z_callSx C (As := [.ref (ad 0), .int 6, .int 5, .int 0, .int 0, .int 0]) (rest := []) (does_isOpen l hfl sa D cI cZ cL ad tacc tnet cnd  ) (va_cwS 6 C.2.2.2.2.1 gL_call_L_does rfl rfl rfl (by decide +kernel) ⟨Nat.le_of_ble_eq_true rfl, Nat.le_of_ble_eq_true rfl⟩) zSub.full rfl (Nat.le_of_ble_eq_true rfl) ⟨Nat.le_of_ble_eq_true rfl, Nat.le_of_ble_eq_true rfl⟩ dL_call_8 ?_
  refine z_catch (E := "java/lang/IndexOutOfBoundsException") (name := "java/lang/IndexOutOfBoundsException") C [] ⟨0, 11, 12, 14⟩ [⟨0, 11, 17, 17⟩, ⟨0, 11, 22, 20⟩] htab (fun z hz => absurd hz List.not_mem_nil) (by decide) (by decide) m_L_call_c14 (by decide) rfl (fun q_1 => ?_)
  refine z_astore C dL_call_12 (by decide) [(0, .ref (ad 0)), (1, .int 6), (2, .int 5), (3, .int 0), (4, .int 0), (5, .int 0), (6, .ref q_1)] [1, 2, 3, 4, 5, 6, 0] rfl ?_
  refine z_ldc C m_L_call_k16 dL_call_14 ?_
  exact z_iretn C () (by omega) rfl rfl (by decide) (by decide) dL_call_16
set_option maxHeartbeats 4000000 in
set_option maxRecDepth 100000 in
theorem does_paid (l : Launch) (hfl : l.stackTraces = false) (sa : Nat → Nat) (D : va_G) (cI cZ cL : ClassId) (ad : Nat → Nat) (tacc tnet cnd : Nat → Int32)   : zX sa D vwCl (zty cI cZ cL) l yL_does wsL_does ({ frames := 8, cells := 1, slots := 6, locals := 124 } : Room) [.ref (ad 0), .int 7, .int 0, .int 5, .int 0, .int 0] (wX ad cI cZ (fun _ => 0) (fun _ => 0) tacc tnet (fun _ => 0) (bnI 25) (fun _ => 0) (fun _ => 0) (fun _ => 0) (fun _ => 0) (fun _ => 0) (fun _ => 0) (fun _ => 0) (fun _ => 0) (fun _ => 0) (fun _ => 0) (fun _ => 0) (fun _ => 0) cnd 100 100 200 0 (nI 0) (nI 0) (nI 0)) "java/lang/IndexOutOfBoundsException" 1 6 := by
  refine zX.of (ret := (some .int)) (cc := cL_does) (nL := 6) (own := RL) (by decide +kernel) rfl [(0, .ref (ad 0)), (1, .int 7), (2, .int 0), (3, .int 5), (4, .int 0), (5, .int 0)] rfl (Nat.le_of_ble_eq_true rfl) rfl ?_
  intro A p e s m args below meth c C hmn ht
  refine z_iload_n C dL_does_0 rfl 1 rfl ?_
  refine z_tabIn C (x := 7) (off := 127) (tgt := 128) dL_does_1 (by decide) (by decide) (by decide) (by decide) ?_
  refine z_aload_n C dL_does_128 rfl 0 rfl ?_
  refine z_iload_n C dL_does_129 rfl 2 rfl ?_
  refine z_iload_n C dL_does_130 rfl 3 rfl ?_
  refine z_callVx C (As := [.int 0, .int 5]) (rest := []) (c_X4_paid_b1b l hfl sa D cI cZ cL ad (fun _ => 0) (fun _ => 0) tacc tnet (fun _ => 0) (bnI 25) (fun _ => 0) (fun _ => 0) (fun _ => 0) (fun _ => 0) (fun _ => 0) (fun _ => 0) (fun _ => 0) (fun _ => 0) (fun _ => 0) (fun _ => 0) (fun _ => 0) (fun _ => 0) cnd 100 100 200 0 0 0 0 0 5 (by first | omega | decide) (by decide)) (cwV 2 C.2.2.2.2.1 gL_does_X4_paid rfl rfl rfl (by decide +kernel) ⟨Nat.le_of_ble_eq_true rfl, Nat.le_of_ble_eq_true rfl⟩) 0 rfl rfl rfl zSub.full rfl (Nat.le_of_ble_eq_true rfl) ⟨Nat.le_of_ble_eq_true rfl, Nat.le_of_ble_eq_true rfl⟩ dL_does_131 ?_
  exact z_out C ht (by decide) (by decide)
set_option maxHeartbeats 4000000 in
set_option maxRecDepth 100000 in
theorem call_paid (l : Launch) (hfl : l.stackTraces = false) (sa : Nat → Nat) (D : va_G) (cI cZ cL : ClassId) (ad : Nat → Nat) (tacc tnet cnd : Nat → Int32)   : zNi (T := Unit) 1 sa D vwCl (zty cI cZ cL) l yL_call wsL_call ({ frames := 9, cells := 1, slots := 6, locals := 149 } : Room) [.ref (ad 0), .int 7, .int 0, .int 5, .int 0, .int 0] (wX ad cI cZ (fun _ => 0) (fun _ => 0) tacc tnet (fun _ => 0) (bnI 25) (fun _ => 0) (fun _ => 0) (fun _ => 0) (fun _ => 0) (fun _ => 0) (fun _ => 0) (fun _ => 0) (fun _ => 0) (fun _ => 0) (fun _ => 0) (fun _ => 0) (fun _ => 0) cnd 100 100 200 0 (nI 0) (nI 0) (nI 0)) (fun r9 _ => r9 = (-2000000021)) (fun _ => (wX ad cI cZ (fun _ => 0) (fun _ => 0) tacc tnet (fun _ => 0) (bnI 25) (fun _ => 0) (fun _ => 0) (fun _ => 0) (fun _ => 0) (fun _ => 0) (fun _ => 0) (fun _ => 0) (fun _ => 0) (fun _ => 0) (fun _ => 0) (fun _ => 0) (fun _ => 0) cnd 100 100 200 0 (nI 0) (nI 0) (nI 0))) 1 6 := by
  refine zNi.ofH (ret := (some .int)) (cc := cL_call) (nL := 7) (own := RL) (by decide +kernel) rfl [(0, .ref (ad 0)), (1, .int 7), (2, .int 0), (3, .int 5), (4, .int 0), (5, .int 0)] rfl (Nat.le_of_ble_eq_true rfl) rfl ?_
  intro A p e s m args below meth c C hmn htab
  refine z_aload_n C dL_call_0 rfl 0 rfl ?_
  refine z_iload_n C dL_call_1 rfl 1 rfl ?_
  refine z_iload_n C dL_call_2 rfl 2 rfl ?_
  refine z_iload_n C dL_call_3 rfl 3 rfl ?_
  refine z_iload C dL_call_4 4 rfl ?_
  refine z_iload C dL_call_6 5 rfl ?_
  refine z_callSx C (As := [.ref (ad 0), .int 7, .int 0, .int 5, .int 0, .int 0]) (rest := []) (does_paid l hfl sa D cI cZ cL ad tacc tnet cnd  ) (va_cwS 6 C.2.2.2.2.1 gL_call_L_does rfl rfl rfl (by decide +kernel) ⟨Nat.le_of_ble_eq_true rfl, Nat.le_of_ble_eq_true rfl⟩) zSub.full rfl (Nat.le_of_ble_eq_true rfl) ⟨Nat.le_of_ble_eq_true rfl, Nat.le_of_ble_eq_true rfl⟩ dL_call_8 ?_
  refine z_catch (E := "java/lang/IndexOutOfBoundsException") (name := "java/lang/IndexOutOfBoundsException") C [] ⟨0, 11, 12, 14⟩ [⟨0, 11, 17, 17⟩, ⟨0, 11, 22, 20⟩] htab (fun z hz => absurd hz List.not_mem_nil) (by decide) (by decide) m_L_call_c14 (by decide) rfl (fun q_1 => ?_)
  refine z_astore C dL_call_12 (by decide) [(0, .ref (ad 0)), (1, .int 7), (2, .int 0), (3, .int 5), (4, .int 0), (5, .int 0), (6, .ref q_1)] [1, 2, 3, 4, 5, 6, 0] rfl ?_
  refine z_ldc C m_L_call_k16 dL_call_14 ?_
  exact z_iretn C () (by omega) rfl rfl (by decide) (by decide) dL_call_16
set_option maxHeartbeats 4000000 in
set_option maxRecDepth 100000 in
theorem does_queued (l : Launch) (hfl : l.stackTraces = false) (sa : Nat → Nat) (D : va_G) (cI cZ cL : ClassId) (ad : Nat → Nat) (tacc tnet cnd : Nat → Int32)   : zX sa D vwCl (zty cI cZ cL) l yL_does wsL_does ({ frames := 8, cells := 1, slots := 6, locals := 124 } : Room) [.ref (ad 0), .int 11, .int 0, .int (-1), .int 0, .int 0] (wX ad cI cZ (fun _ => 0) (fun _ => 0) tacc tnet (fun _ => 0) (bnI 25) (fun _ => 0) (fun _ => 0) (fun _ => 0) (fun _ => 0) (fun _ => 0) (fun _ => 0) (fun _ => 0) (fun _ => 0) (fun _ => 0) (fun _ => 0) (fun _ => 0) (fun _ => 0) cnd 100 100 200 0 (nI 0) (nI 0) (nI 0)) "java/lang/IndexOutOfBoundsException" 1 6 := by
  refine zX.of (ret := (some .int)) (cc := cL_does) (nL := 6) (own := RL) (by decide +kernel) rfl [(0, .ref (ad 0)), (1, .int 11), (2, .int 0), (3, .int (-1)), (4, .int 0), (5, .int 0)] rfl (Nat.le_of_ble_eq_true rfl) rfl ?_
  intro A p e s m args below meth c C hmn ht
  refine z_iload_n C dL_does_0 rfl 1 rfl ?_
  refine z_tabIn C (x := 11) (off := 157) (tgt := 158) dL_does_1 (by decide) (by decide) (by decide) (by decide) ?_
  refine z_aload_n C dL_does_158 rfl 0 rfl ?_
  refine z_iload_n C dL_does_159 rfl 2 rfl ?_
  refine z_iload_n C dL_does_160 rfl 3 rfl ?_
  refine z_callVx C (As := [.int 0, .int (-1)]) (rest := []) (c_X4_queued_b2 l hfl sa D cI cZ cL ad (fun _ => 0) (fun _ => 0) tacc tnet (fun _ => 0) (bnI 25) (fun _ => 0) (fun _ => 0) (fun _ => 0) (fun _ => 0) (fun _ => 0) (fun _ => 0) (fun _ => 0) (fun _ => 0) (fun _ => 0) (fun _ => 0) (fun _ => 0) (fun _ => 0) cnd 100 100 200 0 0 0 0 0 (-1) (by first | omega | decide) (by decide)) (cwV 2 C.2.2.2.2.1 gL_does_X4_queued rfl rfl rfl (by decide +kernel) ⟨Nat.le_of_ble_eq_true rfl, Nat.le_of_ble_eq_true rfl⟩) 0 rfl rfl rfl zSub.full rfl (Nat.le_of_ble_eq_true rfl) ⟨Nat.le_of_ble_eq_true rfl, Nat.le_of_ble_eq_true rfl⟩ dL_does_161 ?_
  exact z_out C ht (by decide) (by decide)
set_option maxHeartbeats 4000000 in
set_option maxRecDepth 100000 in
theorem call_queued (l : Launch) (hfl : l.stackTraces = false) (sa : Nat → Nat) (D : va_G) (cI cZ cL : ClassId) (ad : Nat → Nat) (tacc tnet cnd : Nat → Int32)   : zNi (T := Unit) 1 sa D vwCl (zty cI cZ cL) l yL_call wsL_call ({ frames := 9, cells := 1, slots := 6, locals := 149 } : Room) [.ref (ad 0), .int 11, .int 0, .int (-1), .int 0, .int 0] (wX ad cI cZ (fun _ => 0) (fun _ => 0) tacc tnet (fun _ => 0) (bnI 25) (fun _ => 0) (fun _ => 0) (fun _ => 0) (fun _ => 0) (fun _ => 0) (fun _ => 0) (fun _ => 0) (fun _ => 0) (fun _ => 0) (fun _ => 0) (fun _ => 0) (fun _ => 0) cnd 100 100 200 0 (nI 0) (nI 0) (nI 0)) (fun r9 _ => r9 = (-2000000021)) (fun _ => (wX ad cI cZ (fun _ => 0) (fun _ => 0) tacc tnet (fun _ => 0) (bnI 25) (fun _ => 0) (fun _ => 0) (fun _ => 0) (fun _ => 0) (fun _ => 0) (fun _ => 0) (fun _ => 0) (fun _ => 0) (fun _ => 0) (fun _ => 0) (fun _ => 0) (fun _ => 0) cnd 100 100 200 0 (nI 0) (nI 0) (nI 0))) 1 6 := by
  refine zNi.ofH (ret := (some .int)) (cc := cL_call) (nL := 7) (own := RL) (by decide +kernel) rfl [(0, .ref (ad 0)), (1, .int 11), (2, .int 0), (3, .int (-1)), (4, .int 0), (5, .int 0)] rfl (Nat.le_of_ble_eq_true rfl) rfl ?_
  intro A p e s m args below meth c C hmn htab
  refine z_aload_n C dL_call_0 rfl 0 rfl ?_
  refine z_iload_n C dL_call_1 rfl 1 rfl ?_
  refine z_iload_n C dL_call_2 rfl 2 rfl ?_
  refine z_iload_n C dL_call_3 rfl 3 rfl ?_
  refine z_iload C dL_call_4 4 rfl ?_
  refine z_iload C dL_call_6 5 rfl ?_
  refine z_callSx C (As := [.ref (ad 0), .int 11, .int 0, .int (-1), .int 0, .int 0]) (rest := []) (does_queued l hfl sa D cI cZ cL ad tacc tnet cnd  ) (va_cwS 6 C.2.2.2.2.1 gL_call_L_does rfl rfl rfl (by decide +kernel) ⟨Nat.le_of_ble_eq_true rfl, Nat.le_of_ble_eq_true rfl⟩) zSub.full rfl (Nat.le_of_ble_eq_true rfl) ⟨Nat.le_of_ble_eq_true rfl, Nat.le_of_ble_eq_true rfl⟩ dL_call_8 ?_
  refine z_catch (E := "java/lang/IndexOutOfBoundsException") (name := "java/lang/IndexOutOfBoundsException") C [] ⟨0, 11, 12, 14⟩ [⟨0, 11, 17, 17⟩, ⟨0, 11, 22, 20⟩] htab (fun z hz => absurd hz List.not_mem_nil) (by decide) (by decide) m_L_call_c14 (by decide) rfl (fun q_1 => ?_)
  refine z_astore C dL_call_12 (by decide) [(0, .ref (ad 0)), (1, .int 11), (2, .int 0), (3, .int (-1)), (4, .int 0), (5, .int 0), (6, .ref q_1)] [1, 2, 3, 4, 5, 6, 0] rfl ?_
  refine z_ldc C m_L_call_k16 dL_call_14 ?_
  exact z_iretn C () (by omega) rfl rfl (by decide) (by decide) dL_call_16
set_option maxHeartbeats 4000000 in
set_option maxRecDepth 100000 in
theorem does_why (l : Launch) (hfl : l.stackTraces = false) (sa : Nat → Nat) (D : va_G) (cI cZ cL : ClassId) (ad : Nat → Nat) (tacc tnet cnd : Nat → Int32)   : zX sa D vwCl (zty cI cZ cL) l yL_does wsL_does ({ frames := 8, cells := 1, slots := 6, locals := 124 } : Room) [.ref (ad 0), .int 12, .int 0, .int 0, .int 0, .int 0] (wX ad cI cZ (fun _ => 0) (fun _ => 0) tacc tnet (fun _ => 0) (bnI 25) (fun _ => 0) (fun _ => 0) (fun _ => 0) (fun _ => 0) (fun _ => 0) (fun _ => 0) (fun _ => 0) (fun _ => 0) (fun _ => 0) (fun _ => 0) (fun _ => 0) (fun _ => 0) cnd 100 100 200 0 (nI 0) (nI 0) (nI 0)) "java/lang/IndexOutOfBoundsException" 1 6 := by
  refine zX.of (ret := (some .int)) (cc := cL_does) (nL := 6) (own := RL) (by decide +kernel) rfl [(0, .ref (ad 0)), (1, .int 12), (2, .int 0), (3, .int 0), (4, .int 0), (5, .int 0)] rfl (Nat.le_of_ble_eq_true rfl) rfl ?_
  intro A p e s m args below meth c C hmn ht
  refine z_iload_n C dL_does_0 rfl 1 rfl ?_
  refine z_tabIn C (x := 12) (off := 164) (tgt := 165) dL_does_1 (by decide) (by decide) (by decide) (by decide) ?_
  refine z_aload_n C dL_does_165 rfl 0 rfl ?_
  refine z_iload_n C dL_does_166 rfl 2 rfl ?_
  refine z_callVx C (As := [.int 0]) (rest := []) (c_X4_why_b1 l hfl sa D cI cZ cL ad (fun _ => 0) (fun _ => 0) tacc tnet (fun _ => 0) (bnI 25) (fun _ => 0) (fun _ => 0) (fun _ => 0) (fun _ => 0) (fun _ => 0) (fun _ => 0) (fun _ => 0) (fun _ => 0) (fun _ => 0) (fun _ => 0) (fun _ => 0) (fun _ => 0) cnd 100 100 200 0 0 0 0 0 (by decide)) (cwV 1 C.2.2.2.2.1 gL_does_X4_why rfl rfl rfl (by decide +kernel) ⟨Nat.le_of_ble_eq_true rfl, Nat.le_of_ble_eq_true rfl⟩) 0 rfl rfl rfl zSub.full rfl (Nat.le_of_ble_eq_true rfl) ⟨Nat.le_of_ble_eq_true rfl, Nat.le_of_ble_eq_true rfl⟩ dL_does_167 ?_
  exact z_out C ht (by decide) (by decide)
set_option maxHeartbeats 4000000 in
set_option maxRecDepth 100000 in
theorem call_why (l : Launch) (hfl : l.stackTraces = false) (sa : Nat → Nat) (D : va_G) (cI cZ cL : ClassId) (ad : Nat → Nat) (tacc tnet cnd : Nat → Int32)   : zNi (T := Unit) 1 sa D vwCl (zty cI cZ cL) l yL_call wsL_call ({ frames := 9, cells := 1, slots := 6, locals := 149 } : Room) [.ref (ad 0), .int 12, .int 0, .int 0, .int 0, .int 0] (wX ad cI cZ (fun _ => 0) (fun _ => 0) tacc tnet (fun _ => 0) (bnI 25) (fun _ => 0) (fun _ => 0) (fun _ => 0) (fun _ => 0) (fun _ => 0) (fun _ => 0) (fun _ => 0) (fun _ => 0) (fun _ => 0) (fun _ => 0) (fun _ => 0) (fun _ => 0) cnd 100 100 200 0 (nI 0) (nI 0) (nI 0)) (fun r9 _ => r9 = (-2000000021)) (fun _ => (wX ad cI cZ (fun _ => 0) (fun _ => 0) tacc tnet (fun _ => 0) (bnI 25) (fun _ => 0) (fun _ => 0) (fun _ => 0) (fun _ => 0) (fun _ => 0) (fun _ => 0) (fun _ => 0) (fun _ => 0) (fun _ => 0) (fun _ => 0) (fun _ => 0) (fun _ => 0) cnd 100 100 200 0 (nI 0) (nI 0) (nI 0))) 1 6 := by
  refine zNi.ofH (ret := (some .int)) (cc := cL_call) (nL := 7) (own := RL) (by decide +kernel) rfl [(0, .ref (ad 0)), (1, .int 12), (2, .int 0), (3, .int 0), (4, .int 0), (5, .int 0)] rfl (Nat.le_of_ble_eq_true rfl) rfl ?_
  intro A p e s m args below meth c C hmn htab
  refine z_aload_n C dL_call_0 rfl 0 rfl ?_
  refine z_iload_n C dL_call_1 rfl 1 rfl ?_
  refine z_iload_n C dL_call_2 rfl 2 rfl ?_
  refine z_iload_n C dL_call_3 rfl 3 rfl ?_
  refine z_iload C dL_call_4 4 rfl ?_
  refine z_iload C dL_call_6 5 rfl ?_
  refine z_callSx C (As := [.ref (ad 0), .int 12, .int 0, .int 0, .int 0, .int 0]) (rest := []) (does_why l hfl sa D cI cZ cL ad tacc tnet cnd  ) (va_cwS 6 C.2.2.2.2.1 gL_call_L_does rfl rfl rfl (by decide +kernel) ⟨Nat.le_of_ble_eq_true rfl, Nat.le_of_ble_eq_true rfl⟩) zSub.full rfl (Nat.le_of_ble_eq_true rfl) ⟨Nat.le_of_ble_eq_true rfl, Nat.le_of_ble_eq_true rfl⟩ dL_call_8 ?_
  refine z_catch (E := "java/lang/IndexOutOfBoundsException") (name := "java/lang/IndexOutOfBoundsException") C [] ⟨0, 11, 12, 14⟩ [⟨0, 11, 17, 17⟩, ⟨0, 11, 22, 20⟩] htab (fun z hz => absurd hz List.not_mem_nil) (by decide) (by decide) m_L_call_c14 (by decide) rfl (fun q_1 => ?_)
  refine z_astore C dL_call_12 (by decide) [(0, .ref (ad 0)), (1, .int 12), (2, .int 0), (3, .int 0), (4, .int 0), (5, .int 0), (6, .ref q_1)] [1, 2, 3, 4, 5, 6, 0] rfl ?_
  refine z_ldc C m_L_call_k16 dL_call_14 ?_
  exact z_iretn C () (by omega) rfl rfl (by decide) (by decide) dL_call_16
set_option maxHeartbeats 4000000 in
set_option maxRecDepth 100000 in
theorem does_drop (l : Launch) (hfl : l.stackTraces = false) (sa : Nat → Nat) (D : va_G) (cI cZ cL : ClassId) (ad : Nat → Nat) (tacc tnet cnd : Nat → Int32)   : zX sa D vwCl (zty cI cZ cL) l yL_does wsL_does ({ frames := 8, cells := 1, slots := 6, locals := 124 } : Room) [.ref (ad 0), .int 9, .int 0, .int 0, .int 0, .int 0] (wX ad cI cZ (fun _ => 0) (fun _ => 0) tacc tnet (fun _ => 0) (bnI 25) (fun _ => 0) (fun _ => 0) (fun _ => 0) (fun _ => 0) (fun _ => 0) (fun _ => 0) (fun _ => 0) (fun _ => 0) (fun _ => 0) (fun _ => 0) (fun _ => 0) (fun _ => 0) cnd 100 100 200 0 (nI 0) (nI 0) (nI 0)) "java/lang/IndexOutOfBoundsException" 1 6 := by
  refine zX.of (ret := (some .int)) (cc := cL_does) (nL := 6) (own := RL) (by decide +kernel) rfl [(0, .ref (ad 0)), (1, .int 9), (2, .int 0), (3, .int 0), (4, .int 0), (5, .int 0)] rfl (Nat.le_of_ble_eq_true rfl) rfl ?_
  intro A p e s m args below meth c C hmn ht
  refine z_iload_n C dL_does_0 rfl 1 rfl ?_
  refine z_tabIn C (x := 9) (off := 145) (tgt := 146) dL_does_1 (by decide) (by decide) (by decide) (by decide) ?_
  refine z_aload_n C dL_does_146 rfl 0 rfl ?_
  refine z_iload_n C dL_does_147 rfl 2 rfl ?_
  refine z_callVx C (As := [.int 0]) (rest := []) (c_X4_drop_b1 l hfl sa D cI cZ cL ad (fun _ => 0) (fun _ => 0) tacc tnet (fun _ => 0) (bnI 25) (fun _ => 0) (fun _ => 0) (fun _ => 0) (fun _ => 0) (fun _ => 0) (fun _ => 0) (fun _ => 0) (fun _ => 0) (fun _ => 0) (fun _ => 0) (fun _ => 0) (fun _ => 0) cnd 100 100 200 0 0 0 0 0 (by decide)) (cwV 1 C.2.2.2.2.1 gL_does_X4_drop rfl rfl rfl (by decide +kernel) ⟨Nat.le_of_ble_eq_true rfl, Nat.le_of_ble_eq_true rfl⟩) 0 rfl rfl rfl zSub.full rfl (Nat.le_of_ble_eq_true rfl) ⟨Nat.le_of_ble_eq_true rfl, Nat.le_of_ble_eq_true rfl⟩ dL_does_148 ?_
  exact z_out C ht (by decide) (by decide)
set_option maxHeartbeats 4000000 in
set_option maxRecDepth 100000 in
theorem call_drop (l : Launch) (hfl : l.stackTraces = false) (sa : Nat → Nat) (D : va_G) (cI cZ cL : ClassId) (ad : Nat → Nat) (tacc tnet cnd : Nat → Int32)   : zNi (T := Unit) 1 sa D vwCl (zty cI cZ cL) l yL_call wsL_call ({ frames := 9, cells := 1, slots := 6, locals := 149 } : Room) [.ref (ad 0), .int 9, .int 0, .int 0, .int 0, .int 0] (wX ad cI cZ (fun _ => 0) (fun _ => 0) tacc tnet (fun _ => 0) (bnI 25) (fun _ => 0) (fun _ => 0) (fun _ => 0) (fun _ => 0) (fun _ => 0) (fun _ => 0) (fun _ => 0) (fun _ => 0) (fun _ => 0) (fun _ => 0) (fun _ => 0) (fun _ => 0) cnd 100 100 200 0 (nI 0) (nI 0) (nI 0)) (fun r9 _ => r9 = (-2000000021)) (fun _ => (wX ad cI cZ (fun _ => 0) (fun _ => 0) tacc tnet (fun _ => 0) (bnI 25) (fun _ => 0) (fun _ => 0) (fun _ => 0) (fun _ => 0) (fun _ => 0) (fun _ => 0) (fun _ => 0) (fun _ => 0) (fun _ => 0) (fun _ => 0) (fun _ => 0) (fun _ => 0) cnd 100 100 200 0 (nI 0) (nI 0) (nI 0))) 1 6 := by
  refine zNi.ofH (ret := (some .int)) (cc := cL_call) (nL := 7) (own := RL) (by decide +kernel) rfl [(0, .ref (ad 0)), (1, .int 9), (2, .int 0), (3, .int 0), (4, .int 0), (5, .int 0)] rfl (Nat.le_of_ble_eq_true rfl) rfl ?_
  intro A p e s m args below meth c C hmn htab
  refine z_aload_n C dL_call_0 rfl 0 rfl ?_
  refine z_iload_n C dL_call_1 rfl 1 rfl ?_
  refine z_iload_n C dL_call_2 rfl 2 rfl ?_
  refine z_iload_n C dL_call_3 rfl 3 rfl ?_
  refine z_iload C dL_call_4 4 rfl ?_
  refine z_iload C dL_call_6 5 rfl ?_
  refine z_callSx C (As := [.ref (ad 0), .int 9, .int 0, .int 0, .int 0, .int 0]) (rest := []) (does_drop l hfl sa D cI cZ cL ad tacc tnet cnd  ) (va_cwS 6 C.2.2.2.2.1 gL_call_L_does rfl rfl rfl (by decide +kernel) ⟨Nat.le_of_ble_eq_true rfl, Nat.le_of_ble_eq_true rfl⟩) zSub.full rfl (Nat.le_of_ble_eq_true rfl) ⟨Nat.le_of_ble_eq_true rfl, Nat.le_of_ble_eq_true rfl⟩ dL_call_8 ?_
  refine z_catch (E := "java/lang/IndexOutOfBoundsException") (name := "java/lang/IndexOutOfBoundsException") C [] ⟨0, 11, 12, 14⟩ [⟨0, 11, 17, 17⟩, ⟨0, 11, 22, 20⟩] htab (fun z hz => absurd hz List.not_mem_nil) (by decide) (by decide) m_L_call_c14 (by decide) rfl (fun q_1 => ?_)
  refine z_astore C dL_call_12 (by decide) [(0, .ref (ad 0)), (1, .int 9), (2, .int 0), (3, .int 0), (4, .int 0), (5, .int 0), (6, .ref q_1)] [1, 2, 3, 4, 5, 6, 0] rfl ?_
  refine z_ldc C m_L_call_k16 dL_call_14 ?_
  exact z_iretn C () (by omega) rfl rfl (by decide) (by decide) dL_call_16
set_option maxHeartbeats 4000000 in
set_option maxRecDepth 100000 in
theorem does_fund (l : Launch) (hfl : l.stackTraces = false) (sa : Nat → Nat) (D : va_G) (cI cZ cL : ClassId) (ad : Nat → Nat) (tacc tnet cnd : Nat → Int32)   : zX sa D vwCl (zty cI cZ cL) l yL_does wsL_does ({ frames := 8, cells := 1, slots := 6, locals := 124 } : Room) [.ref (ad 0), .int 0, .int (-1), .int 1000001, .int 0, .int 0] (wX ad cI cZ (fun _ => 0) (fun _ => 0) tacc tnet (fun _ => 0) (bnI 25) (fun _ => 0) (fun _ => 0) (fun _ => 0) (fun _ => 0) (fun _ => 0) (fun _ => 0) (fun _ => 0) (fun _ => 0) (fun _ => 0) (fun _ => 0) (fun _ => 0) (fun _ => 0) cnd 100 100 200 0 (nI 0) (nI 0) (nI 0)) "java/lang/IndexOutOfBoundsException" 1 6 := by
  refine zX.of (ret := (some .int)) (cc := cL_does) (nL := 6) (own := RL) (by decide +kernel) rfl [(0, .ref (ad 0)), (1, .int 0), (2, .int (-1)), (3, .int 1000001), (4, .int 0), (5, .int 0)] rfl (Nat.le_of_ble_eq_true rfl) rfl ?_
  intro A p e s m args below meth c C hmn ht
  refine z_iload_n C dL_does_0 rfl 1 rfl ?_
  refine z_tabIn C (x := 0) (off := 71) (tgt := 72) dL_does_1 (by decide) (by decide) (by decide) (by decide) ?_
  refine z_aload_n C dL_does_72 rfl 0 rfl ?_
  refine z_iload_n C dL_does_73 rfl 2 rfl ?_
  refine z_iload_n C dL_does_74 rfl 3 rfl ?_
  refine z_callVx C (As := [.int (-1), .int 1000001]) (rest := []) (c_X4_fund_b1 l hfl sa D cI cZ cL ad (fun _ => 0) (fun _ => 0) tacc tnet (fun _ => 0) (bnI 25) (fun _ => 0) (fun _ => 0) (fun _ => 0) (fun _ => 0) (fun _ => 0) (fun _ => 0) (fun _ => 0) (fun _ => 0) (fun _ => 0) (fun _ => 0) (fun _ => 0) (fun _ => 0) cnd 100 100 200 0 0 0 0 (-1) 1000001 (by first | omega | decide)) (cwV 2 C.2.2.2.2.1 gL_does_X4_fund rfl rfl rfl (by decide +kernel) ⟨Nat.le_of_ble_eq_true rfl, Nat.le_of_ble_eq_true rfl⟩) 0 rfl rfl rfl zSub.full rfl (Nat.le_of_ble_eq_true rfl) ⟨Nat.le_of_ble_eq_true rfl, Nat.le_of_ble_eq_true rfl⟩ dL_does_75 ?_
  exact z_out C ht (by decide) (by decide)
set_option maxHeartbeats 4000000 in
set_option maxRecDepth 100000 in
theorem call_fund (l : Launch) (hfl : l.stackTraces = false) (sa : Nat → Nat) (D : va_G) (cI cZ cL : ClassId) (ad : Nat → Nat) (tacc tnet cnd : Nat → Int32)   : zNi (T := Unit) 1 sa D vwCl (zty cI cZ cL) l yL_call wsL_call ({ frames := 9, cells := 1, slots := 6, locals := 149 } : Room) [.ref (ad 0), .int 0, .int (-1), .int 1000001, .int 0, .int 0] (wX ad cI cZ (fun _ => 0) (fun _ => 0) tacc tnet (fun _ => 0) (bnI 25) (fun _ => 0) (fun _ => 0) (fun _ => 0) (fun _ => 0) (fun _ => 0) (fun _ => 0) (fun _ => 0) (fun _ => 0) (fun _ => 0) (fun _ => 0) (fun _ => 0) (fun _ => 0) cnd 100 100 200 0 (nI 0) (nI 0) (nI 0)) (fun r9 _ => r9 = (-2000000021)) (fun _ => (wX ad cI cZ (fun _ => 0) (fun _ => 0) tacc tnet (fun _ => 0) (bnI 25) (fun _ => 0) (fun _ => 0) (fun _ => 0) (fun _ => 0) (fun _ => 0) (fun _ => 0) (fun _ => 0) (fun _ => 0) (fun _ => 0) (fun _ => 0) (fun _ => 0) (fun _ => 0) cnd 100 100 200 0 (nI 0) (nI 0) (nI 0))) 1 6 := by
  refine zNi.ofH (ret := (some .int)) (cc := cL_call) (nL := 7) (own := RL) (by decide +kernel) rfl [(0, .ref (ad 0)), (1, .int 0), (2, .int (-1)), (3, .int 1000001), (4, .int 0), (5, .int 0)] rfl (Nat.le_of_ble_eq_true rfl) rfl ?_
  intro A p e s m args below meth c C hmn htab
  refine z_aload_n C dL_call_0 rfl 0 rfl ?_
  refine z_iload_n C dL_call_1 rfl 1 rfl ?_
  refine z_iload_n C dL_call_2 rfl 2 rfl ?_
  refine z_iload_n C dL_call_3 rfl 3 rfl ?_
  refine z_iload C dL_call_4 4 rfl ?_
  refine z_iload C dL_call_6 5 rfl ?_
  refine z_callSx C (As := [.ref (ad 0), .int 0, .int (-1), .int 1000001, .int 0, .int 0]) (rest := []) (does_fund l hfl sa D cI cZ cL ad tacc tnet cnd  ) (va_cwS 6 C.2.2.2.2.1 gL_call_L_does rfl rfl rfl (by decide +kernel) ⟨Nat.le_of_ble_eq_true rfl, Nat.le_of_ble_eq_true rfl⟩) zSub.full rfl (Nat.le_of_ble_eq_true rfl) ⟨Nat.le_of_ble_eq_true rfl, Nat.le_of_ble_eq_true rfl⟩ dL_call_8 ?_
  refine z_catch (E := "java/lang/IndexOutOfBoundsException") (name := "java/lang/IndexOutOfBoundsException") C [] ⟨0, 11, 12, 14⟩ [⟨0, 11, 17, 17⟩, ⟨0, 11, 22, 20⟩] htab (fun z hz => absurd hz List.not_mem_nil) (by decide) (by decide) m_L_call_c14 (by decide) rfl (fun q_1 => ?_)
  refine z_astore C dL_call_12 (by decide) [(0, .ref (ad 0)), (1, .int 0), (2, .int (-1)), (3, .int 1000001), (4, .int 0), (5, .int 0), (6, .ref q_1)] [1, 2, 3, 4, 5, 6, 0] rfl ?_
  refine z_ldc C m_L_call_k16 dL_call_14 ?_
  exact z_iretn C () (by omega) rfl rfl (by decide) (by decide) dL_call_16
set_option maxHeartbeats 4000000 in
set_option maxRecDepth 100000 in
theorem does_canAny (l : Launch) (sa : Nat → Nat) (D : va_G) (cI cZ cL : ClassId) (ad : Nat → Nat) (tacc tnet cnd : Nat → Int32)   : zMi (T := (Nat → Int32) × (Nat → Int32) × (Nat → Int32)) sa D vwCl (zty cI cZ cL) l yL_does wsL_does ({ frames := 7, cells := 0, slots := 0, locals := 111 } : Room) [.ref (ad 0), .int 13, .int 0, .int 0, .int 0, .int 0] (wX ad cI cZ (fun _ => 0) (fun _ => 0) tacc tnet (fun _ => 0) (bnI 25) (fun _ => 0) (fun _ => 0) (fun _ => 0) (fun _ => 0) (fun _ => 0) (fun _ => 0) (fun _ => 0) (fun _ => 0) (fun _ => 0) (fun _ => 0) (fun _ => 0) (fun _ => 0) cnd 100 100 200 0 (nI 0) (nI 0) (nI 0)) (fun r9 u => r9 = 0) (fun u => (wX ad cI cZ (fun _ => 0) (fun _ => 0) u.2.1 u.2.2 (fun _ => 0) (bnI 25) (fun _ => 0) (fun _ => 0) (fun _ => 0) (fun _ => 0) (fun _ => 0) (fun _ => 0) (fun _ => 0) (fun _ => 0) (fun _ => 0) (fun _ => 0) (fun _ => 0) (fun _ => 0) u.1 100 100 200 0 (nI 0) (nI 0) (nI 0))) 0 0 := by
  refine zMi.of (ret := (some .int)) (cc := cL_does) (nL := 6) (own := RL) (by decide +kernel) rfl [(0, .ref (ad 0)), (1, .int 13), (2, .int 0), (3, .int 0), (4, .int 0), (5, .int 0)] rfl (Nat.le_of_ble_eq_true rfl) rfl ?_
  intro A p e s m args below meth c C hmn
  refine z_iload_n C dL_does_0 rfl 1 rfl ?_
  refine z_tabIn C (x := 13) (off := 170) (tgt := 171) dL_does_1 (by decide) (by decide) (by decide) (by decide) ?_
  refine z_aload_n C dL_does_171 rfl 0 rfl ?_
  refine z_callVi C (As := []) (rest := []) (ws' := fun u_1 => (wX ad cI cZ (fun _ => 0) (fun _ => 0) u_1.2.1 u_1.2.2 (fun _ => 0) (bnI 25) (fun _ => 0) (fun _ => 0) (fun _ => 0) (fun _ => 0) (fun _ => 0) (fun _ => 0) (fun _ => 0) (fun _ => 0) (fun _ => 0) (fun _ => 0) (fun _ => 0) (fun _ => 0) u_1.1 100 100 200 0 (nI 0) (nI 0) (nI 0))) (f_canAny l sa D cI cZ cL ad tacc tnet cnd  ) (cwV 0 C.2.2.2.2.1 gL_does_X4_canAny rfl rfl rfl (by decide +kernel) ⟨Nat.le_of_ble_eq_true rfl, Nat.le_of_ble_eq_true rfl⟩) 0 rfl rfl rfl (fun _ => zSub.full) zIn.full rfl (Nat.le_of_ble_eq_true rfl) ⟨Nat.le_of_ble_eq_true rfl, Nat.le_of_ble_eq_true rfl⟩ dL_does_172 (fun r_2 u_1 h_3 => ?_)
  obtain rfl : r_2 = 0 := h_3
  refine z_if_eq C (tgt := 182) dL_does_175 (by decide) (fun _ => ?_) (fun h => absurd h (by decide))
  refine z_iconst C (v := 0) dL_does_182 (by decide) ?_
  exact z_iret C (u_1.1, u_1.2.1, u_1.2.2) rfl rfl (by decide) (by decide) dL_does_183
set_option maxHeartbeats 4000000 in
set_option maxRecDepth 100000 in
theorem call_canAny (l : Launch) (sa : Nat → Nat) (D : va_G) (cI cZ cL : ClassId) (ad : Nat → Nat) (tacc tnet cnd : Nat → Int32)   : zMi (T := (Nat → Int32) × (Nat → Int32) × (Nat → Int32)) sa D vwCl (zty cI cZ cL) l yL_call wsL_call ({ frames := 8, cells := 0, slots := 0, locals := 136 } : Room) [.ref (ad 0), .int 13, .int 0, .int 0, .int 0, .int 0] (wX ad cI cZ (fun _ => 0) (fun _ => 0) tacc tnet (fun _ => 0) (bnI 25) (fun _ => 0) (fun _ => 0) (fun _ => 0) (fun _ => 0) (fun _ => 0) (fun _ => 0) (fun _ => 0) (fun _ => 0) (fun _ => 0) (fun _ => 0) (fun _ => 0) (fun _ => 0) cnd 100 100 200 0 (nI 0) (nI 0) (nI 0)) (fun r9 u => r9 = 0) (fun u => (wX ad cI cZ (fun _ => 0) (fun _ => 0) u.2.1 u.2.2 (fun _ => 0) (bnI 25) (fun _ => 0) (fun _ => 0) (fun _ => 0) (fun _ => 0) (fun _ => 0) (fun _ => 0) (fun _ => 0) (fun _ => 0) (fun _ => 0) (fun _ => 0) (fun _ => 0) (fun _ => 0) u.1 100 100 200 0 (nI 0) (nI 0) (nI 0))) 0 0 := by
  refine zMi.ofH (ret := (some .int)) (cc := cL_call) (nL := 7) (own := RL) (by decide +kernel) rfl [(0, .ref (ad 0)), (1, .int 13), (2, .int 0), (3, .int 0), (4, .int 0), (5, .int 0)] rfl (Nat.le_of_ble_eq_true rfl) rfl ?_
  intro A p e s m args below meth c C hmn htab
  refine z_aload_n C dL_call_0 rfl 0 rfl ?_
  refine z_iload_n C dL_call_1 rfl 1 rfl ?_
  refine z_iload_n C dL_call_2 rfl 2 rfl ?_
  refine z_iload_n C dL_call_3 rfl 3 rfl ?_
  refine z_iload C dL_call_4 4 rfl ?_
  refine z_iload C dL_call_6 5 rfl ?_
  refine z_callSi C (As := [.ref (ad 0), .int 13, .int 0, .int 0, .int 0, .int 0]) (rest := []) (ws' := fun u_1 => (wX ad cI cZ (fun _ => 0) (fun _ => 0) u_1.2.1 u_1.2.2 (fun _ => 0) (bnI 25) (fun _ => 0) (fun _ => 0) (fun _ => 0) (fun _ => 0) (fun _ => 0) (fun _ => 0) (fun _ => 0) (fun _ => 0) (fun _ => 0) (fun _ => 0) (fun _ => 0) (fun _ => 0) u_1.1 100 100 200 0 (nI 0) (nI 0) (nI 0))) (does_canAny l sa D cI cZ cL ad tacc tnet cnd  ) (va_cwS 6 C.2.2.2.2.1 gL_call_L_does rfl rfl rfl (by decide +kernel) ⟨Nat.le_of_ble_eq_true rfl, Nat.le_of_ble_eq_true rfl⟩) (fun _ => zSub.full) zIn.full rfl (Nat.le_of_ble_eq_true rfl) ⟨Nat.le_of_ble_eq_true rfl, Nat.le_of_ble_eq_true rfl⟩ dL_call_8 (fun r_2 u_1 h_3 => ?_)
  obtain rfl : r_2 = 0 := h_3
  exact z_iret C (u_1.1, u_1.2.1, u_1.2.2) rfl rfl (by decide) (by decide) dL_call_11
