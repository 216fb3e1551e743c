theorem i_L_law_X4 : ∀ w ∈ wsX40, w ∈ wsL_law := by decide +kernel
theorem m_L_law_c24 : Cond.classLink RL 24 RX4 ∈ wsL_law := by decide +kernel
theorem m_L_law_sX4 : Cond.instantiable RX4 12 ∈ wsL_law := by decide +kernel
theorem m_L_law_nX4 : Cond.initialized RX4 ∈ wsL_law := by decide +kernel
theorem m_L_law_l121 : Cond.methodLink RL 121 yX4_init ∈ wsL_law := by decide +kernel
theorem m_L_law_imX4 : Cond.instanceMethod yX4_init ∈ wsL_law := by decide +kernel
def wsL_law1 : List Cond := Cond.code yL_law cL_law 9 (some .boolean) :: wsL_law
set_option maxHeartbeats 4000000 in
set_option maxRecDepth 100000 in
theorem c_L_law (l : Launch) (hfl : l.stackTraces = false) (sa : Nat → Nat) (D : va_G) (cI cZ cL : ClassId) (sb : Nat) (xs : Nat → Int32) (hx0 : ∀ j, j < 70 → cellF (xs (j * 2)) (j * 2) = 30) (hx1 : ∀ j, j < 70 → cellF (xs (j * 2 + 1)) (j * 2 + 1) = 2) : zNi (T := Unit) 126 sa D vwCl (zty cI cZ cL) l yL_law wsL_law1 ({ frames := 11, cells := 700, slots := 6000, locals := 209 } : Room) [.ref sb] [(sb, .inl (cI, 140, .inl xs))] (fun _ _ => True) (fun _ => []) 700 6000 := by
  refine zNi.of (ret := (some .boolean)) (cc := cL_law) (nL := 9) (own := RL) (by decide +kernel) rfl [(0, .ref sb)] rfl (Nat.le_of_ble_eq_true rfl) rfl ?_
  intro A p e s m args below meth c C0 hmn
  have C : zK sa D vwCl (zty cI cZ cL) A p s m args meth c cL_law 9 RL wsL_law (some .boolean) := ⟨C0.1, C0.2.1, C0.2.2.1, C0.2.2.2.1, fun w h => C0.2.2.2.2.1 w (List.mem_cons_of_mem _ h), C0.2.2.2.2.2⟩
  refine z_new C i_L_law_X4 tyX4 tyX4_ok m_L_law_c24 m_L_law_sX4 m_L_law_nX4 (ci := 4) rfl (fs := [.null, .null, .null, .null, .null, .null, .null, .null, .int 0, .int 0, .int 0, .int 0]) (z_dvX4) ⟨Nat.le_of_ble_eq_true rfl, Nat.le_of_ble_eq_true rfl⟩ dL_law_0 (fun q1 => ?_)
  refine z_dup C dL_law_3 rfl ?_
  refine z_callIv C (ret9 := none) (As := []) (rest := [.ref q1]) (ws' := fun u => ([(sb, .inl (cI, 140, .inl xs))] ++ (wX u cI cZ (fun _ => 0) (fun _ => 0) (fun _ => 0) (fun _ => 0) (fun _ => 0) (bnI 25) (fun _ => 0) (fun _ => 0) (fun _ => 0) (fun _ => 0) (fun _ => 0) (fun _ => 0) (fun _ => 0) (fun _ => 0) (fun _ => 0) (fun _ => 0) (fun _ => 0) (fun _ => 0) (fun _ => 0) 100 100 200 0 (nI 0) (nI 0) (nI 0)))) (c_X4_init l sa D cI cZ cL q1) (cwI 0 C.2.2.2.2.1 gL_law_X4_init rfl rfl rfl (C.2.2.2.2.1 _ m_L_law_nX4) (C.2.2.2.2.1 _ m_L_law_l121) (C.2.2.2.2.1 _ m_L_law_imX4) rfl (by decide +kernel) ⟨Nat.le_of_ble_eq_true rfl, Nat.le_of_ble_eq_true rfl⟩) (fun _ => zSub.of (wr := [(sb, .inl (cI, 140, .inl xs))]) [1] [0] [0, 1, 2, 3, 4, 5, 6, 7, 8, 9, 10, 11, 12, 13, 14, 15, 16, 17, 18, 19, 20, 21, 22, 23, 24, 25] rfl rfl rfl rfl (by decide) rfl rfl) (zIn.of [1] rfl rfl) rfl (Nat.le_of_ble_eq_true rfl) ⟨Nat.le_of_ble_eq_true rfl, Nat.le_of_ble_eq_true rfl⟩ dL_law_4 (fun ad had => ?_)
  obtain rfl := had
  refine z_astore_n C dL_law_7 rfl (by decide) [(0, .ref sb), (1, .ref (ad 0))] [1, 0] rfl ?_
  refine z_iconst C (v := 0) dL_law_8 (by decide) ?_
  refine z_istore_n C dL_law_9 rfl (by decide) [(0, .ref sb), (1, .ref (ad 0)), (2, .int 0)] [1, 2, 0] rfl ?_
  refine z_aload_n C dL_law_10 rfl 1 rfl ?_
  refine z_iconst C (v := 0) dL_law_11 (by decide) ?_
  refine z_callSl C (T := Unit) (As := [.ref (ad 0), .int 0]) (rest := []) (ws' := fun _ => ([(sb, .inl (cI, 140, .inl xs))] ++ (wX ad cI cZ (fun _ => 0) (fun _ => 0) (fun _ => 0) (fun _ => 0) (fun _ => 0) (bnI 25) (fun _ => 0) (fun _ => 0) (fun _ => 0) (fun _ => 0) (fun _ => 0) (fun _ => 0) (fun _ => 0) (fun _ => 0) (fun _ => 0) (fun _ => 0) (fun _ => 0) (fun _ => 0) (fun _ => 0) 100 100 200 0 (nI 0) (nI 0) (nI 0)))) (c_L_all l sa D cI cZ cL ad (fun _ => 0) (fun _ => 0) (fun _ => 0)  ) (va_cwS 2 C.2.2.2.2.1 gL_law_L_all rfl rfl rfl (by decide +kernel) ⟨Nat.le_of_ble_eq_true rfl, Nat.le_of_ble_eq_true rfl⟩) (fun _ => (zSub.of (wr := [(sb, .inl (cI, 140, .inl xs))]) [1, 2, 3, 4, 5, 6, 7, 8, 9, 10, 11, 12, 13, 14, 15, 16, 17, 18, 19, 20, 21, 22, 23, 24, 25] [0] [0, 1, 2, 3, 4, 5, 6, 7, 8, 9, 10, 11, 12, 13, 14, 15, 16, 17, 18, 19, 20, 21, 22, 23, 24, 25] rfl rfl rfl rfl (by decide) rfl rfl)) (zIn.of [1, 2, 3, 4, 5, 6, 7, 8, 9, 10, 11, 12, 13, 14, 15, 16, 17, 18, 19, 20, 21, 22, 23, 24, 25] rfl rfl) rfl (Nat.le_of_ble_eq_true rfl) ⟨(by show _ ≤ (700 : Nat); omega), (by show _ ≤ (6000 : Nat); omega)⟩ dL_law_12 (fun r_1 _ h_2 => ?_)
  obtain rfl : r_1 = 5421326277993579420 := h_2
  refine z_aload_n C dL_law_15 rfl 1 rfl ?_
  refine z_iconst C (v := 0) dL_law_16 (by decide) ?_
  refine z_callSl C (T := Unit) (As := [.ref (ad 0), .int 0]) (rest := [.long 5421326277993579420]) (ws' := fun _ => ([(sb, .inl (cI, 140, .inl xs))] ++ (wX ad cI cZ (fun _ => 0) (fun _ => 0) (fun _ => 0) (fun _ => 0) (fun _ => 0) (bnI 25) (fun _ => 0) (fun _ => 0) (fun _ => 0) (fun _ => 0) (fun _ => 0) (fun _ => 0) (fun _ => 0) (fun _ => 0) (fun _ => 0) (fun _ => 0) (fun _ => 0) (fun _ => 0) (fun _ => 0) 100 100 200 0 (nI 0) (nI 0) (nI 0)))) (c_L_all l sa D cI cZ cL ad (fun _ => 0) (fun _ => 0) (fun _ => 0)  ) (va_cwS 2 C.2.2.2.2.1 gL_law_L_all rfl rfl rfl (by decide +kernel) ⟨Nat.le_of_ble_eq_true rfl, Nat.le_of_ble_eq_true rfl⟩) (fun _ => (zSub.of (wr := [(sb, .inl (cI, 140, .inl xs))]) [1, 2, 3, 4, 5, 6, 7, 8, 9, 10, 11, 12, 13, 14, 15, 16, 17, 18, 19, 20, 21, 22, 23, 24, 25] [0] [0, 1, 2, 3, 4, 5, 6, 7, 8, 9, 10, 11, 12, 13, 14, 15, 16, 17, 18, 19, 20, 21, 22, 23, 24, 25] rfl rfl rfl rfl (by decide) rfl rfl)) (zIn.of [1, 2, 3, 4, 5, 6, 7, 8, 9, 10, 11, 12, 13, 14, 15, 16, 17, 18, 19, 20, 21, 22, 23, 24, 25] rfl rfl) rfl (Nat.le_of_ble_eq_true rfl) ⟨(by show _ ≤ (700 : Nat); omega), (by show _ ≤ (6000 : Nat); omega)⟩ dL_law_17 (fun r_3 _ h_4 => ?_)
  obtain rfl : r_3 = 5421326277993579420 := h_4
  refine z_lcmp_ne C dL_law_20 (tgt := 50) dL_law_21 (by decide) (fun h => absurd h (by decide)) (fun _ => ?_)
  refine z_aload_n C dL_law_24 rfl 1 rfl ?_
  refine z_iconst C (v := 0) dL_law_25 (by decide) ?_
  refine z_callSn C (As := [.ref (ad 0), .int 0]) (rest := []) (ws' := fun u_5 => ([(sb, .inl (cI, 140, .inl xs))] ++ (wX ad cI cZ (fun _ => 0) (fun _ => 0) u_5.2.1 u_5.2.2 (fun _ => 0) (bnI 25) (fun _ => 0) (fun _ => 0) (fun _ => 0) (fun _ => 0) (fun _ => 0) (fun _ => 0) (fun _ => 0) (fun _ => 0) (fun _ => 0) (fun _ => 0) (fun _ => 0) (fun _ => 0) u_5.1 100 100 200 0 (nI 0) (nI 0) (nI 0)))) (c_L_kept l hfl sa D cI cZ cL ad (fun _ => 0) (fun _ => 0) (fun _ => 0)  ) (va_cwS 2 C.2.2.2.2.1 gL_law_L_kept rfl rfl rfl (by decide +kernel) ⟨Nat.le_of_ble_eq_true rfl, Nat.le_of_ble_eq_true rfl⟩) (fun _ => (zSub.of (wr := [(sb, .inl (cI, 140, .inl xs))]) [1, 2, 3, 4, 5, 6, 7, 8, 9, 10, 11, 12, 13, 14, 15, 16, 17, 18, 19, 20, 21, 22, 23, 24, 25] [0] [0, 1, 2, 3, 4, 5, 6, 7, 8, 9, 10, 11, 12, 13, 14, 15, 16, 17, 18, 19, 20, 21, 22, 23, 24, 25] rfl rfl rfl rfl (by decide) rfl rfl)) (zIn.of [1, 2, 3, 4, 5, 6, 7, 8, 9, 10, 11, 12, 13, 14, 15, 16, 17, 18, 19, 20, 21, 22, 23, 24, 25] rfl rfl) rfl (Nat.le_of_ble_eq_true rfl) ⟨(by show _ ≤ (700 : Nat); omega), (by show _ ≤ (6000 : Nat); omega)⟩ dL_law_26 (fun r_6 u_5 h_7 => ?_)
  obtain rfl : r_6 = 1 := h_7
  refine z_if_eq C (tgt := 50) dL_law_29 (by decide) (fun h => absurd h (by decide)) (fun _ => ?_)
  refine z_aload_n C dL_law_32 rfl 1 rfl ?_
  refine z_callVi C (As := []) (rest := []) (ws' := fun u_8 => ([(sb, .inl (cI, 140, .inl xs))] ++ (wX ad cI cZ (fun _ => 0) (fun _ => 0) u_8.2.1 u_8.2.2 (fun _ => 0) (bnI 25) (fun _ => 0) (fun _ => 0) (fun _ => 0) (fun _ => 0) (fun _ => 0) (fun _ => 0) (fun _ => 0) (fun _ => 0) (fun _ => 0) (fun _ => 0) (fun _ => 0) (fun _ => 0) u_8.1 100 100 200 0 (nI 0) (nI 0) (nI 0)))) (f_run l sa D cI cZ cL ad u_5.2.1 u_5.2.2 u_5.1  ) (cwV 0 C.2.2.2.2.1 gL_law_X4_run rfl rfl rfl (by decide +kernel) ⟨Nat.le_of_ble_eq_true rfl, Nat.le_of_ble_eq_true rfl⟩) 1 rfl rfl rfl (fun _ => (zSub.of (wr := [(sb, .inl (cI, 140, .inl xs))]) [1, 2, 3, 4, 5, 6, 7, 8, 9, 10, 11, 12, 13, 14, 15, 16, 17, 18, 19, 20, 21, 22, 23, 24, 25] [0] [0, 1, 2, 3, 4, 5, 6, 7, 8, 9, 10, 11, 12, 13, 14, 15, 16, 17, 18, 19, 20, 21, 22, 23, 24, 25] rfl rfl rfl rfl (by decide) rfl rfl)) (zIn.of [1, 2, 3, 4, 5, 6, 7, 8, 9, 10, 11, 12, 13, 14, 15, 16, 17, 18, 19, 20, 21, 22, 23, 24, 25] rfl rfl) rfl (Nat.le_of_ble_eq_true rfl) ⟨(by show _ ≤ (700 : Nat); omega), (by show _ ≤ (6000 : Nat); omega)⟩ dL_law_33 (fun r_9 u_8 h_10 => ?_)
  obtain rfl : r_9 = 0 := h_10
  refine z_if_ne C (tgt := 50) dL_law_36 (by decide) (fun h => absurd h (by decide)) (fun _ => ?_)
  refine z_aload_n C dL_law_39 rfl 1 rfl ?_
  refine z_callVi C (T := Unit) (As := []) (rest := []) (ws' := fun _ => ([(sb, .inl (cI, 140, .inl xs))] ++ (wX ad cI cZ (fun _ => 0) (fun _ => 0) u_8.2.1 u_8.2.2 (fun _ => 0) (bnI 25) (fun _ => 0) (fun _ => 0) (fun _ => 0) (fun _ => 0) (fun _ => 0) (fun _ => 0) (fun _ => 0) (fun _ => 0) (fun _ => 0) (fun _ => 0) (fun _ => 0) (fun _ => 0) u_8.1 100 100 200 0 (nI 0) (nI 0) (nI 0)))) (f_morning l sa D cI cZ cL ad u_8.2.1 u_8.2.2 u_8.1  ) (cwV 0 C.2.2.2.2.1 gL_law_X4_morning rfl rfl rfl (by decide +kernel) ⟨Nat.le_of_ble_eq_true rfl, Nat.le_of_ble_eq_true rfl⟩) 1 rfl rfl rfl (fun _ => (zSub.of (wr := [(sb, .inl (cI, 140, .inl xs))]) [1, 2, 3, 4, 5, 6, 7, 8, 9, 10, 11, 12, 13, 14, 15, 16, 17, 18, 19, 20, 21, 22, 23, 24, 25] [0] [0, 1, 2, 3, 4, 5, 6, 7, 8, 9, 10, 11, 12, 13, 14, 15, 16, 17, 18, 19, 20, 21, 22, 23, 24, 25] rfl rfl rfl rfl (by decide) rfl rfl)) (zIn.of [1, 2, 3, 4, 5, 6, 7, 8, 9, 10, 11, 12, 13, 14, 15, 16, 17, 18, 19, 20, 21, 22, 23, 24, 25] rfl rfl) rfl (Nat.le_of_ble_eq_true rfl) ⟨(by show _ ≤ (700 : Nat); omega), (by show _ ≤ (6000 : Nat); omega)⟩ dL_law_40 (fun r_11 _ h_12 => ?_)
  obtain rfl : r_11 = 0 := h_12
  refine z_if_ne C (tgt := 50) dL_law_43 (by decide) (fun h => absurd h (by decide)) (fun _ => ?_)
  refine z_iconst C (v := 1) dL_law_46 (by decide) ?_
  refine z_goto C (tgt := 51) dL_law_47 (by decide) ?_
  refine z_istore_n C dL_law_51 rfl (by decide) [(0, .ref sb), (1, .ref (ad 0)), (2, .int 0), (3, .int 1)] [1, 2, 3, 0] rfl ?_
  refine z_iconst C (v := 0) dL_law_52 (by decide) ?_
  refine z_istore C dL_law_53 (by decide) [(0, .ref sb), (1, .ref (ad 0)), (2, .int 0), (3, .int 1), (4, .int 0)] [1, 2, 3, 4, 0] rfl ?_
  have L55_k_13 : ∀ (n : Nat) (k : Nat) (ta tn c9 : Nat → Int32), 70 - k < n → (k ≤ 70) → zW (6 + k + 6 * ((k + 4) / 5)) p l e ({ frames := 11, cells := 700, slots := 6000, locals := 209 } : Room) s m args below meth c (MQ below (zQn (T := Unit) (s.heap.size + 126) D vwCl (zty cI cZ cL) A (fun _ _ => True) (fun _ => [])) args s 700 6000 A) D vwCl A 9 (31 + 8 * k) (697 + 48 * k) ([(sb, .inl (cI, 140, .inl xs))] ++ (wX ad cI cZ (fun _ => 0) (fun _ => 0) ta tn (fun _ => 0) (bnI 25) (fun _ => 0) (fun _ => 0) (fun _ => 0) (fun _ => 0) (fun _ => 0) (fun _ => 0) (fun _ => 0) (fun _ => 0) (fun _ => 0) (fun _ => 0) (fun _ => 0) (fun _ => 0) c9 100 100 200 0 (nI 0) (nI 0) (nI 0))) [(0, .ref sb), (1, .ref (ad 0)), (2, .int 0), (3, .int 1), (4, .int (nI k))] 55 [] := by
    intro n
    induction n with
    | zero => intros; omega
    | succ n ih_14 =>
      intro k ta tn c9 hm_15 hk
      refine z_iload C dL_law_55 4 rfl ?_
      refine z_bipush C (v := 70) dL_law_57 (by decide) ?_
      refine z_icmp_ge C (tgt := 288) dL_law_59 (by decide) (fun c59_16 => ?_) (fun c59_16 => ?_)
      · skip
        have n_17 : 70 ≤ k := (nI_leI (a := 70) (b := k) (by omega) (by omega)).mp c59_16
        refine z_iload_n C dL_law_288 rfl 3 rfl ?_
        refine z_if_eq C (tgt := 304) dL_law_289 (by decide) (fun h => absurd h (by decide)) (fun _ => ?_)
        refine z_aload_n C dL_law_292 rfl 1 rfl ?_
        refine z_iload_n C dL_law_293 rfl 2 rfl ?_
        refine z_callSn C (As := [.ref (ad 0), .int 0]) (rest := []) (ws' := fun u_18 => ([(sb, .inl (cI, 140, .inl xs))] ++ (wX ad cI cZ (fun _ => 0) (fun _ => 0) u_18.2.1 u_18.2.2 (fun _ => 0) (bnI 25) (fun _ => 0) (fun _ => 0) (fun _ => 0) (fun _ => 0) (fun _ => 0) (fun _ => 0) (fun _ => 0) (fun _ => 0) (fun _ => 0) (fun _ => 0) (fun _ => 0) (fun _ => 0) u_18.1 100 100 200 0 (nI 0) (nI 0) (nI 0)))) (c_L_kept l hfl sa D cI cZ cL ad ta tn c9  ) (va_cwS 2 C.2.2.2.2.1 gL_law_L_kept rfl rfl rfl (by decide +kernel) ⟨Nat.le_of_ble_eq_true rfl, Nat.le_of_ble_eq_true rfl⟩) (fun _ => (zSub.of (wr := [(sb, .inl (cI, 140, .inl xs))]) [1, 2, 3, 4, 5, 6, 7, 8, 9, 10, 11, 12, 13, 14, 15, 16, 17, 18, 19, 20, 21, 22, 23, 24, 25] [0] [0, 1, 2, 3, 4, 5, 6, 7, 8, 9, 10, 11, 12, 13, 14, 15, 16, 17, 18, 19, 20, 21, 22, 23, 24, 25] rfl rfl rfl rfl (by decide) rfl rfl)) (zIn.of [1, 2, 3, 4, 5, 6, 7, 8, 9, 10, 11, 12, 13, 14, 15, 16, 17, 18, 19, 20, 21, 22, 23, 24, 25] rfl rfl) rfl (Nat.le_of_ble_eq_true rfl) ⟨(by show _ ≤ (700 : Nat); omega), (by show _ ≤ (6000 : Nat); omega)⟩ dL_law_294 (fun r_19 u_18 h_20 => ?_)
        obtain rfl : r_19 = 1 := h_20
        refine z_if_eq C (tgt := 304) dL_law_297 (by decide) (fun h => absurd h (by decide)) (fun _ => ?_)
        refine z_iconst C (v := 1) dL_law_300 (by decide) ?_
        refine z_goto C (tgt := 305) dL_law_301 (by decide) ?_
        refine z_perm [] [] rfl (by decide) ?_
        refine z_widen (k := 700) (n := 6000) (by omega) (by omega) ?_
        exact z_zretn C () (by omega) trivial rfl (by decide) (by decide) (by decide) dL_law_305
      · skip
        have n_21 : ¬ 70 ≤ k := fun q => c59_16 ((nI_leI (a := 70) (b := k) (by omega) (by omega)).mpr q)
        refine z_iload_n C dL_law_62 rfl 3 rfl ?_
        refine z_if_eq C (tgt := 288) dL_law_63 (by decide) (fun h => absurd h (by decide)) (fun _ => ?_)
        refine z_aload_n C dL_law_66 rfl 0 rfl ?_
        refine z_iconst C (v := 2) dL_law_67 (by decide) ?_
        refine z_iload C dL_law_68 4 rfl ?_
        refine z_imul C (v := (nI (k * 2))) dL_law_70 (z_mulc 2 k) ?_
        refine z_callSi C (T := Unit) (As := [.ref sb, .int (nI (k * 2))]) (rest := []) (ws' := fun _ => ([(sb, .inl (cI, 140, .inl xs))] ++ (wX ad cI cZ (fun _ => 0) (fun _ => 0) ta tn (fun _ => 0) (bnI 25) (fun _ => 0) (fun _ => 0) (fun _ => 0) (fun _ => 0) (fun _ => 0) (fun _ => 0) (fun _ => 0) (fun _ => 0) (fun _ => 0) (fun _ => 0) (fun _ => 0) (fun _ => 0) c9 100 100 200 0 (nI 0) (nI 0) (nI 0)))) (c_L_cell l sa D cI cZ cL sb xs (k * 2) (by first | assumption | omega | decide)) (va_cwS 2 C.2.2.2.2.1 gL_law_L_cell rfl rfl rfl (by decide +kernel) ⟨Nat.le_of_ble_eq_true rfl, Nat.le_of_ble_eq_true rfl⟩) (fun _ => (zSub.of (wr := [((ad 0), .inr (4, [.ref (ad 1), .ref (ad 2), .ref (ad 3), .ref (ad 4), .ref (ad 5), .ref (ad 22), .ref (ad 23), .ref (ad 24), .int 100, .int 100, .int 200, .int 0])), ((ad 1), .inr (3, [.ref (ad 6), .ref (ad 7)])), ((ad 2), .inr (3, [.ref (ad 8), .ref (ad 9)])), ((ad 3), .inr (0, [.ref (ad 10), .ref (ad 11)])), ((ad 4), .inr (2, [.ref (ad 12), .ref (ad 13), .ref (ad 14), .ref (ad 15), .ref (ad 16), .ref (ad 17), .int (nI 0)])), ((ad 5), .inr (1, [.ref (ad 18), .ref (ad 19), .ref (ad 20), .ref (ad 21), .int (nI 0), .int (nI 0)])), ((ad 6), .inl (cI, 5, .inl (fun _ => 0))), ((ad 7), .inl (cI, 25, .inl (fun _ => 0))), ((ad 8), .inl (cI, 5, .inl ta)), ((ad 9), .inl (cI, 25, .inl tn)), ((ad 10), .inl (cI, 5, .inl (fun _ => 0))), ((ad 11), .inl (cI, 25, .inl (bnI 25))), ((ad 12), .inl (cI, 60, .inl (fun _ => 0))), ((ad 13), .inl (cI, 60, .inl (fun _ => 0))), ((ad 14), .inl (cI, 60, .inl (fun _ => 0))), ((ad 15), .inl (cI, 60, .inl (fun _ => 0))), ((ad 16), .inl (cZ, 60, .inl (fun _ => 0))), ((ad 17), .inl (cI, 60, .inl (fun _ => 0))), ((ad 18), .inl (cI, 40, .inl (fun _ => 0))), ((ad 19), .inl (cI, 40, .inl (fun _ => 0))), ((ad 20), .inl (cI, 40, .inl (fun _ => 0))), ((ad 21), .inl (cI, 40, .inl (fun _ => 0))), ((ad 22), .inl (cZ, 5, .inl (fun _ => 0))), ((ad 23), .inl (cI, 5, .inl (fun _ => 0))), ((ad 24), .inl (cI, 10, .inl c9))]) [0] [1, 2, 3, 4, 5, 6, 7, 8, 9, 10, 11, 12, 13, 14, 15, 16, 17, 18, 19, 20, 21, 22, 23, 24, 25] [25, 0, 1, 2, 3, 4, 5, 6, 7, 8, 9, 10, 11, 12, 13, 14, 15, 16, 17, 18, 19, 20, 21, 22, 23, 24] rfl rfl rfl rfl (by decide) rfl rfl)) (zIn.of [0] rfl rfl) rfl (Nat.le_of_ble_eq_true rfl) ⟨(by show _ ≤ (700 : Nat); omega), (by show _ ≤ (6000 : Nat); omega)⟩ dL_law_71 (fun r_22 _ h_23 => ?_)
        obtain rfl : r_22 = 30 := h_23.trans (hx0 k (by omega))
        refine z_istore C dL_law_74 (by decide) [(0, .ref sb), (1, .ref (ad 0)), (2, .int 0), (3, .int 1), (4, .int (nI k)), (5, .int 30)] [1, 2, 3, 4, 5, 0] rfl ?_
        refine z_aload_n C dL_law_76 rfl 0 rfl ?_
        refine z_iconst C (v := 2) dL_law_77 (by decide) ?_
        refine z_iload C dL_law_78 4 rfl ?_
        refine z_imul C (v := (nI (k * 2))) dL_law_80 (z_mulc 2 k) ?_
        refine z_iconst C (v := 1) dL_law_81 (by decide) ?_
        refine z_iadd C (v := (nI ((k * 2) + 1))) dL_law_82 (nI_add (k * 2) 1) ?_
        refine z_callSi C (T := Unit) (As := [.ref sb, .int (nI ((k * 2) + 1))]) (rest := []) (ws' := fun _ => ([(sb, .inl (cI, 140, .inl xs))] ++ (wX ad cI cZ (fun _ => 0) (fun _ => 0) ta tn (fun _ => 0) (bnI 25) (fun _ => 0) (fun _ => 0) (fun _ => 0) (fun _ => 0) (fun _ => 0) (fun _ => 0) (fun _ => 0) (fun _ => 0) (fun _ => 0) (fun _ => 0) (fun _ => 0) (fun _ => 0) c9 100 100 200 0 (nI 0) (nI 0) (nI 0)))) (c_L_cell l sa D cI cZ cL sb xs ((k * 2) + 1) (by first | assumption | omega | decide)) (va_cwS 2 C.2.2.2.2.1 gL_law_L_cell rfl rfl rfl (by decide +kernel) ⟨Nat.le_of_ble_eq_true rfl, Nat.le_of_ble_eq_true rfl⟩) (fun _ => (zSub.of (wr := [((ad 0), .inr (4, [.ref (ad 1), .ref (ad 2), .ref (ad 3), .ref (ad 4), .ref (ad 5), .ref (ad 22), .ref (ad 23), .ref (ad 24), .int 100, .int 100, .int 200, .int 0])), ((ad 1), .inr (3, [.ref (ad 6), .ref (ad 7)])), ((ad 2), .inr (3, [.ref (ad 8), .ref (ad 9)])), ((ad 3), .inr (0, [.ref (ad 10), .ref (ad 11)])), ((ad 4), .inr (2, [.ref (ad 12), .ref (ad 13), .ref (ad 14), .ref (ad 15), .ref (ad 16), .ref (ad 17), .int (nI 0)])), ((ad 5), .inr (1, [.ref (ad 18), .ref (ad 19), .ref (ad 20), .ref (ad 21), .int (nI 0), .int (nI 0)])), ((ad 6), .inl (cI, 5, .inl (fun _ => 0))), ((ad 7), .inl (cI, 25, .inl (fun _ => 0))), ((ad 8), .inl (cI, 5, .inl ta)), ((ad 9), .inl (cI, 25, .inl tn)), ((ad 10), .inl (cI, 5, .inl (fun _ => 0))), ((ad 11), .inl (cI, 25, .inl (bnI 25))), ((ad 12), .inl (cI, 60, .inl (fun _ => 0))), ((ad 13), .inl (cI, 60, .inl (fun _ => 0))), ((ad 14), .inl (cI, 60, .inl (fun _ => 0))), ((ad 15), .inl (cI, 60, .inl (fun _ => 0))), ((ad 16), .inl (cZ, 60, .inl (fun _ => 0))), ((ad 17), .inl (cI, 60, .inl (fun _ => 0))), ((ad 18), .inl (cI, 40, .inl (fun _ => 0))), ((ad 19), .inl (cI, 40, .inl (fun _ => 0))), ((ad 20), .inl (cI, 40, .inl (fun _ => 0))), ((ad 21), .inl (cI, 40, .inl (fun _ => 0))), ((ad 22), .inl (cZ, 5, .inl (fun _ => 0))), ((ad 23), .inl (cI, 5, .inl (fun _ => 0))), ((ad 24), .inl (cI, 10, .inl c9))]) [0] [1, 2, 3, 4, 5, 6, 7, 8, 9, 10, 11, 12, 13, 14, 15, 16, 17, 18, 19, 20, 21, 22, 23, 24, 25] [25, 0, 1, 2, 3, 4, 5, 6, 7, 8, 9, 10, 11, 12, 13, 14, 15, 16, 17, 18, 19, 20, 21, 22, 23, 24] rfl rfl rfl rfl (by decide) rfl rfl)) (zIn.of [0] rfl rfl) rfl (Nat.le_of_ble_eq_true rfl) ⟨(by show _ ≤ (700 : Nat); omega), (by show _ ≤ (6000 : Nat); omega)⟩ dL_law_83 (fun r_24 _ h_25 => ?_)
        obtain rfl : r_24 = 2 := h_25.trans (hx1 k (by omega))
        refine z_istore C dL_law_86 (by decide) [(0, .ref sb), (1, .ref (ad 0)), (2, .int 0), (3, .int 1), (4, .int (nI k)), (5, .int 30), (6, .int 2)] [1, 2, 3, 4, 5, 6, 0] rfl ?_
        refine z_iload C dL_law_88 5 rfl ?_
        refine z_bipush C (v := 9) dL_law_90 (by decide) ?_
        refine z_ishr C (v := 0) dL_law_92 (by decide) ?_
        refine z_bipush C (v := 10) dL_law_93 (by decide) ?_
        refine z_callSi C (T := Unit) (As := [.int 0, .int 10]) (rest := []) (ws' := fun _ => ([(sb, .inl (cI, 140, .inl xs))] ++ (wX ad cI cZ (fun _ => 0) (fun _ => 0) ta tn (fun _ => 0) (bnI 25) (fun _ => 0) (fun _ => 0) (fun _ => 0) (fun _ => 0) (fun _ => 0) (fun _ => 0) (fun _ => 0) (fun _ => 0) (fun _ => 0) (fun _ => 0) (fun _ => 0) (fun _ => 0) c9 100 100 200 0 (nI 0) (nI 0) (nI 0)))) (c_L_some l sa D cI cZ cL  0 10 (by first | assumption | omega | decide)) (va_cwS 2 C.2.2.2.2.1 gL_law_L_some rfl rfl rfl (by decide +kernel) ⟨Nat.le_of_ble_eq_true rfl, Nat.le_of_ble_eq_true rfl⟩) (fun _ => zSub.none) zIn.none rfl (Nat.le_of_ble_eq_true rfl) ⟨(by show _ ≤ (700 : Nat); omega), (by show _ ≤ (6000 : Nat); omega)⟩ dL_law_95 (fun r_26 _ h_27 => ?_)
        obtain rfl : r_26 = 0 := h_27.trans (by decide +kernel)
        refine z_if_ne C (tgt := 105) dL_law_98 (by decide) (fun h => absurd h (by decide)) (fun _ => ?_)
        refine z_iconst C (v := 1) dL_law_101 (by decide) ?_
        refine z_goto C (tgt := 106) dL_law_102 (by decide) ?_
        refine z_istore C dL_law_106 (by decide) [(0, .ref sb), (1, .ref (ad 0)), (2, .int 0), (3, .int 1), (4, .int (nI k)), (5, .int 30), (6, .int 2), (7, .int 1)] [1, 2, 3, 4, 5, 6, 7, 0] rfl ?_
        refine z_iload C dL_law_108 5 rfl ?_
        refine z_bipush C (v := 16) dL_law_110 (by decide) ?_
        refine z_callSi C (T := Unit) (As := [.int 30, .int 16]) (rest := []) (ws' := fun _ => ([(sb, .inl (cI, 140, .inl xs))] ++ (wX ad cI cZ (fun _ => 0) (fun _ => 0) ta tn (fun _ => 0) (bnI 25) (fun _ => 0) (fun _ => 0) (fun _ => 0) (fun _ => 0) (fun _ => 0) (fun _ => 0) (fun _ => 0) (fun _ => 0) (fun _ => 0) (fun _ => 0) (fun _ => 0) (fun _ => 0) c9 100 100 200 0 (nI 0) (nI 0) (nI 0)))) (c_L_some l sa D cI cZ cL  30 16 (by first | assumption | omega | decide)) (va_cwS 2 C.2.2.2.2.1 gL_law_L_some rfl rfl rfl (by decide +kernel) ⟨Nat.le_of_ble_eq_true rfl, Nat.le_of_ble_eq_true rfl⟩) (fun _ => zSub.none) zIn.none rfl (Nat.le_of_ble_eq_true rfl) ⟨(by show _ ≤ (700 : Nat); omega), (by show _ ≤ (6000 : Nat); omega)⟩ dL_law_112 (fun r_28 _ h_29 => ?_)
        obtain rfl : r_28 = 15 := h_29.trans (by decide +kernel)
        refine z_istore C dL_law_115 (by decide) [(0, .ref sb), (1, .ref (ad 0)), (2, .int 0), (3, .int 1), (4, .int (nI k)), (5, .int 30), (6, .int 2), (7, .int 1), (8, .int 15)] [1, 2, 3, 4, 5, 6, 7, 8, 0] rfl ?_
        refine z_iload C dL_law_117 8 rfl ?_
        refine z_iconst C (v := 5) dL_law_119 (by decide) ?_
        refine z_icmp_lt C (tgt := 129) dL_law_120 (by decide) (fun h => absurd h (by decide)) (fun _ => ?_)
        refine z_iload C dL_law_123 4 rfl ?_
        refine z_iconst C (v := 4) dL_law_125 (by decide) ?_
        refine z_icmp_ge C (tgt := 146) dL_law_126 (by decide) (fun c126_30 => ?_) (fun c126_30 => ?_)
        · skip
          have n_31 : 4 ≤ k := (nI_leI (a := 4) (b := k) (by omega) (by omega)).mp c126_30
          refine z_iload C dL_law_146 8 rfl ?_
          refine z_bipush C (v := 10) dL_law_148 (by decide) ?_
          refine z_icmp_ge C (tgt := 180) dL_law_150 (by decide) (fun _ => ?_) (fun h => absurd h (by decide))
          refine z_iload C dL_law_180 8 rfl ?_
          refine z_bipush C (v := 12) dL_law_182 (by decide) ?_
          refine z_icmp_ge C (tgt := 204) dL_law_184 (by decide) (fun _ => ?_) (fun h => absurd h (by decide))
          refine z_iload C dL_law_204 8 rfl ?_
          refine z_bipush C (v := 15) dL_law_206 (by decide) ?_
          refine z_icmp_ge C (tgt := 220) dL_law_208 (by decide) (fun _ => ?_) (fun h => absurd h (by decide))
          refine z_iload C dL_law_220 6 rfl ?_
          refine z_iconst C (v := 3) dL_law_222 (by decide) ?_
          refine z_callSi C (T := Unit) (As := [.int 2, .int 3]) (rest := []) (ws' := fun _ => ([(sb, .inl (cI, 140, .inl xs))] ++ (wX ad cI cZ (fun _ => 0) (fun _ => 0) ta tn (fun _ => 0) (bnI 25) (fun _ => 0) (fun _ => 0) (fun _ => 0) (fun _ => 0) (fun _ => 0) (fun _ => 0) (fun _ => 0) (fun _ => 0) (fun _ => 0) (fun _ => 0) (fun _ => 0) (fun _ => 0) c9 100 100 200 0 (nI 0) (nI 0) (nI 0)))) (c_L_some l sa D cI cZ cL  2 3 (by first | assumption | omega | decide)) (va_cwS 2 C.2.2.2.2.1 gL_law_L_some rfl rfl rfl (by decide +kernel) ⟨Nat.le_of_ble_eq_true rfl, Nat.le_of_ble_eq_true rfl⟩) (fun _ => zSub.none) zIn.none rfl (Nat.le_of_ble_eq_true rfl) ⟨(by show _ ≤ (700 : Nat); omega), (by show _ ≤ (6000 : Nat); omega)⟩ dL_law_223 (fun r_32 _ h_33 => ?_)
          obtain rfl : r_32 = 1 := h_33.trans (by decide +kernel)
          refine z_if_ne C (tgt := 235) dL_law_226 (by decide) (fun _ => ?_) (fun h => absurd h (by decide))
          refine z_iload_n C dL_law_235 rfl 3 rfl ?_
          refine z_if_eq C (tgt := 282) dL_law_236 (by decide) (fun h => absurd h (by decide)) (fun _ => ?_)
          refine z_aload_n C dL_law_239 rfl 1 rfl ?_
          refine z_iload_n C dL_law_240 rfl 2 rfl ?_
          refine z_iload C dL_law_241 6 rfl ?_
          refine z_iconst C (v := 2) dL_law_243 (by decide) ?_
          refine z_ishr C (v := 0) dL_law_244 (by decide) ?_
          refine z_iload C dL_law_245 6 rfl ?_
          refine z_iconst C (v := 5) dL_law_247 (by decide) ?_
          refine z_imul C (v := 10) dL_law_248 (by decide) ?_
          refine z_iload C dL_law_249 5 rfl ?_
          refine z_iadd C (v := 40) dL_law_251 (by decide) ?_
          refine z_iconst C (v := 0) dL_law_252 (by decide) ?_
          refine z_callSn C (T := Unit) (As := [.ref (ad 0), .int 0, .int 0, .int 40, .int 0]) (rest := []) (ws' := fun _ => ([(sb, .inl (cI, 140, .inl xs))] ++ (wX ad cI cZ (fun _ => 0) (fun _ => 0) ta tn (fun _ => 0) (bnI 25) (fun _ => 0) (fun _ => 0) (fun _ => 0) (fun _ => 0) (fun _ => 0) (fun _ => 0) (fun _ => 0) (fun _ => 0) (fun _ => 0) (fun _ => 0) (fun _ => 0) (fun _ => 0) c9 100 100 200 0 (nI 0) (nI 0) (nI 0)))) (c_L_pays l hfl sa D cI cZ cL ad ta tn c9  ) (va_cwS 5 C.2.2.2.2.1 gL_law_L_pays rfl rfl rfl (by decide +kernel) ⟨Nat.le_of_ble_eq_true rfl, Nat.le_of_ble_eq_true rfl⟩) (fun _ => (zSub.of (wr := [(sb, .inl (cI, 140, .inl xs))]) [1, 2, 3, 4, 5, 6, 7, 8, 9, 10, 11, 12, 13, 14, 15, 16, 17, 18, 19, 20, 21, 22, 23, 24, 25] [0] [0, 1, 2, 3, 4, 5, 6, 7, 8, 9, 10, 11, 12, 13, 14, 15, 16, 17, 18, 19, 20, 21, 22, 23, 24, 25] rfl rfl rfl rfl (by decide) rfl rfl)) (zIn.of [1, 2, 3, 4, 5, 6, 7, 8, 9, 10, 11, 12, 13, 14, 15, 16, 17, 18, 19, 20, 21, 22, 23, 24, 25] rfl rfl) rfl (Nat.le_of_ble_eq_true rfl) ⟨(by show _ ≤ (700 : Nat); omega), (by show _ ≤ (6000 : Nat); omega)⟩ dL_law_253 (fun r_34 _ h_35 => ?_)
          obtain rfl : r_34 = 0 := h_35
          refine z_istore_n C dL_law_256 rfl (by decide) [(0, .ref sb), (1, .ref (ad 0)), (2, .int 0), (3, .int 1), (4, .int (nI k)), (5, .int 30), (6, .int 2), (7, .int 1), (8, .int 15)] [1, 2, 0, 3, 4, 5, 6, 7, 8] rfl ?_
          refine z_iload_n C dL_law_257 rfl 2 rfl ?_
          refine z_if_lt C (tgt := 280) dL_law_258 (by decide) (fun h => absurd h (by decide)) (fun _ => ?_)
          refine z_iload C dL_law_261 4 rfl ?_
          refine z_iconst C (v := 5) dL_law_263 (by decide) ?_
          refine z_irem C (v := (nI (k % 5))) dL_law_264 (by decide) (z_rem5 (by omega)) ?_
          refine z_if_gt C (tgt := 276) dL_law_265 (by decide) (fun c265_36 => ?_) (fun c265_36 => ?_)
          · skip
            have n_37 : 0 < (k % 5) := (nI_ltI (a := 0) (b := k % 5) (by omega) (by omega)).mp c265_36
            refine z_iconst C (v := 1) dL_law_276 (by decide) ?_
            refine z_goto C (tgt := 281) dL_law_277 (by decide) ?_
            refine z_istore_n C dL_law_281 rfl (by decide) [(0, .ref sb), (1, .ref (ad 0)), (2, .int 0), (3, .int 1), (4, .int (nI k)), (5, .int 30), (6, .int 2), (7, .int 1), (8, .int 15)] [1, 2, 3, 0, 4, 5, 6, 7, 8] rfl ?_
            refine z_iinc C (v := (nI (k + 1))) dL_law_282 4 rfl (nI_add k 1) (by decide) [(0, .ref sb), (1, .ref (ad 0)), (2, .int 0), (3, .int 1), (4, .int (nI (k + 1))), (5, .int 30), (6, .int 2), (7, .int 1), (8, .int 15)] [1, 2, 3, 4, 0, 5, 6, 7, 8] rfl ?_
            refine z_goto C (tgt := 55) dL_law_285 (by decide) ?_
            refine z_lv [(0, .ref sb), (1, .ref (ad 0)), (2, .int 0), (3, .int 1), (4, .int (nI (k + 1)))] [0, 1, 2, 3, 4] rfl ?_
            refine z_widen (k := (31 + 8 * (k + 1))) (n := (697 + 48 * (k + 1))) (by omega) (by omega) ?_
            refine z_cn (cn' := (6 + (k + 1) + 6 * (((k + 1) + 4) / 5))) (by omega) ?_
            exact ih_14 (k + 1) ta tn c9 (by omega) (by first | assumption | omega)
          · skip
            have n_38 : ¬ 0 < (k % 5) := fun q => c265_36 ((nI_ltI (a := 0) (b := k % 5) (by omega) (by omega)).mpr q)
            refine z_aload_n C dL_law_268 rfl 1 rfl ?_
            refine z_iload_n C dL_law_269 rfl 2 rfl ?_
            refine z_callSn C (As := [.ref (ad 0), .int 0]) (rest := []) (ws' := fun u_39 => ([(sb, .inl (cI, 140, .inl xs))] ++ (wX ad cI cZ (fun _ => 0) (fun _ => 0) u_39.2.1 u_39.2.2 (fun _ => 0) (bnI 25) (fun _ => 0) (fun _ => 0) (fun _ => 0) (fun _ => 0) (fun _ => 0) (fun _ => 0) (fun _ => 0) (fun _ => 0) (fun _ => 0) (fun _ => 0) (fun _ => 0) (fun _ => 0) u_39.1 100 100 200 0 (nI 0) (nI 0) (nI 0)))) (c_L_kept l hfl sa D cI cZ cL ad ta tn c9  ) (va_cwS 2 C.2.2.2.2.1 gL_law_L_kept rfl rfl rfl (by decide +kernel) ⟨Nat.le_of_ble_eq_true rfl, Nat.le_of_ble_eq_true rfl⟩) (fun _ => (zSub.of (wr := [(sb, .inl (cI, 140, .inl xs))]) [1, 2, 3, 4, 5, 6, 7, 8, 9, 10, 11, 12, 13, 14, 15, 16, 17, 18, 19, 20, 21, 22, 23, 24, 25] [0] [0, 1, 2, 3, 4, 5, 6, 7, 8, 9, 10, 11, 12, 13, 14, 15, 16, 17, 18, 19, 20, 21, 22, 23, 24, 25] rfl rfl rfl rfl (by decide) rfl rfl)) (zIn.of [1, 2, 3, 4, 5, 6, 7, 8, 9, 10, 11, 12, 13, 14, 15, 16, 17, 18, 19, 20, 21, 22, 23, 24, 25] rfl rfl) rfl (Nat.le_of_ble_eq_true rfl) ⟨(by show _ ≤ (700 : Nat); omega), (by show _ ≤ (6000 : Nat); omega)⟩ dL_law_270 (fun r_40 u_39 h_41 => ?_)
            obtain rfl : r_40 = 1 := h_41
            refine z_if_eq C (tgt := 280) dL_law_273 (by decide) (fun h => absurd h (by decide)) (fun _ => ?_)
            refine z_iconst C (v := 1) dL_law_276 (by decide) ?_
            refine z_goto C (tgt := 281) dL_law_277 (by decide) ?_
            refine z_istore_n C dL_law_281 rfl (by decide) [(0, .ref sb), (1, .ref (ad 0)), (2, .int 0), (3, .int 1), (4, .int (nI k)), (5, .int 30), (6, .int 2), (7, .int 1), (8, .int 15)] [1, 2, 3, 0, 4, 5, 6, 7, 8] rfl ?_
            refine z_iinc C (v := (nI (k + 1))) dL_law_282 4 rfl (nI_add k 1) (by decide) [(0, .ref sb), (1, .ref (ad 0)), (2, .int 0), (3, .int 1), (4, .int (nI (k + 1))), (5, .int 30), (6, .int 2), (7, .int 1), (8, .int 15)] [1, 2, 3, 4, 0, 5, 6, 7, 8] rfl ?_
            refine z_goto C (tgt := 55) dL_law_285 (by decide) ?_
            refine z_lv [(0, .ref sb), (1, .ref (ad 0)), (2, .int 0), (3, .int 1), (4, .int (nI (k + 1)))] [0, 1, 2, 3, 4] rfl ?_
            refine z_widen (k := (31 + 8 * (k + 1))) (n := (697 + 48 * (k + 1))) (by omega) (by omega) ?_
            refine z_cn (cn' := (6 + (k + 1) + 6 * (((k + 1) + 4) / 5))) (by omega) ?_
            exact ih_14 (k + 1) u_39.2.1 u_39.2.2 u_39.1 (by omega) (by first | assumption | omega)
        · skip
          have n_42 : ¬ 4 ≤ k := fun q => c126_30 ((nI_leI (a := 4) (b := k) (by omega) (by omega)).mpr q)
          refine z_aload_n C dL_law_129 rfl 1 rfl ?_
          refine z_iload_n C dL_law_130 rfl 2 rfl ?_
          refine z_iload C dL_law_131 6 rfl ?_
          refine z_iload C dL_law_133 5 rfl ?_
          refine z_iconst C (v := 3) dL_law_135 (by decide) ?_
          refine z_ishr C (v := 3) dL_law_136 (by decide) ?_
          refine z_iload C dL_law_137 7 rfl ?_
          refine z_callSn C (T := Unit) (As := [.ref (ad 0), .int 0, .int 2, .int 3, .int 1]) (rest := []) (ws' := fun _ => ([(sb, .inl (cI, 140, .inl xs))] ++ (wX ad cI cZ (fun _ => 0) (fun _ => 0) ta tn (fun _ => 0) (bnI 25) (fun _ => 0) (fun _ => 0) (fun _ => 0) (fun _ => 0) (fun _ => 0) (fun _ => 0) (fun _ => 0) (fun _ => 0) (fun _ => 0) (fun _ => 0) (fun _ => 0) (fun _ => 0) c9 100 100 200 0 (nI 0) (nI 0) (nI 0)))) (c_L_sets l hfl sa D cI cZ cL ad ta tn c9  ) (va_cwS 5 C.2.2.2.2.1 gL_law_L_sets rfl rfl rfl (by decide +kernel) ⟨Nat.le_of_ble_eq_true rfl, Nat.le_of_ble_eq_true rfl⟩) (fun _ => (zSub.of (wr := [(sb, .inl (cI, 140, .inl xs))]) [1, 2, 3, 4, 5, 6, 7, 8, 9, 10, 11, 12, 13, 14, 15, 16, 17, 18, 19, 20, 21, 22, 23, 24, 25] [0] [0, 1, 2, 3, 4, 5, 6, 7, 8, 9, 10, 11, 12, 13, 14, 15, 16, 17, 18, 19, 20, 21, 22, 23, 24, 25] rfl rfl rfl rfl (by decide) rfl rfl)) (zIn.of [1, 2, 3, 4, 5, 6, 7, 8, 9, 10, 11, 12, 13, 14, 15, 16, 17, 18, 19, 20, 21, 22, 23, 24, 25] rfl rfl) rfl (Nat.le_of_ble_eq_true rfl) ⟨(by show _ ≤ (700 : Nat); omega), (by show _ ≤ (6000 : Nat); omega)⟩ dL_law_139 (fun r_43 _ h_44 => ?_)
          obtain rfl : r_43 = 1 := h_44
          refine z_istore_n C dL_law_142 rfl (by decide) [(0, .ref sb), (1, .ref (ad 0)), (2, .int 0), (3, .int 1), (4, .int (nI k)), (5, .int 30), (6, .int 2), (7, .int 1), (8, .int 15)] [1, 2, 3, 0, 4, 5, 6, 7, 8] rfl ?_
          refine z_goto C (tgt := 235) dL_law_143 (by decide) ?_
          refine z_iload_n C dL_law_235 rfl 3 rfl ?_
          refine z_if_eq C (tgt := 282) dL_law_236 (by decide) (fun h => absurd h (by decide)) (fun _ => ?_)
          refine z_aload_n C dL_law_239 rfl 1 rfl ?_
          refine z_iload_n C dL_law_240 rfl 2 rfl ?_
          refine z_iload C dL_law_241 6 rfl ?_
          refine z_iconst C (v := 2) dL_law_243 (by decide) ?_
          refine z_ishr C (v := 0) dL_law_244 (by decide) ?_
          refine z_iload C dL_law_245 6 rfl ?_
          refine z_iconst C (v := 5) dL_law_247 (by decide) ?_
          refine z_imul C (v := 10) dL_law_248 (by decide) ?_
          refine z_iload C dL_law_249 5 rfl ?_
          refine z_iadd C (v := 40) dL_law_251 (by decide) ?_
          refine z_iconst C (v := 0) dL_law_252 (by decide) ?_
          refine z_callSn C (T := Unit) (As := [.ref (ad 0), .int 0, .int 0, .int 40, .int 0]) (rest := []) (ws' := fun _ => ([(sb, .inl (cI, 140, .inl xs))] ++ (wX ad cI cZ (fun _ => 0) (fun _ => 0) ta tn (fun _ => 0) (bnI 25) (fun _ => 0) (fun _ => 0) (fun _ => 0) (fun _ => 0) (fun _ => 0) (fun _ => 0) (fun _ => 0) (fun _ => 0) (fun _ => 0) (fun _ => 0) (fun _ => 0) (fun _ => 0) c9 100 100 200 0 (nI 0) (nI 0) (nI 0)))) (c_L_pays l hfl sa D cI cZ cL ad ta tn c9  ) (va_cwS 5 C.2.2.2.2.1 gL_law_L_pays rfl rfl rfl (by decide +kernel) ⟨Nat.le_of_ble_eq_true rfl, Nat.le_of_ble_eq_true rfl⟩) (fun _ => (zSub.of (wr := [(sb, .inl (cI, 140, .inl xs))]) [1, 2, 3, 4, 5, 6, 7, 8, 9, 10, 11, 12, 13, 14, 15, 16, 17, 18, 19, 20, 21, 22, 23, 24, 25] [0] [0, 1, 2, 3, 4, 5, 6, 7, 8, 9, 10, 11, 12, 13, 14, 15, 16, 17, 18, 19, 20, 21, 22, 23, 24, 25] rfl rfl rfl rfl (by decide) rfl rfl)) (zIn.of [1, 2, 3, 4, 5, 6, 7, 8, 9, 10, 11, 12, 13, 14, 15, 16, 17, 18, 19, 20, 21, 22, 23, 24, 25] rfl rfl) rfl (Nat.le_of_ble_eq_true rfl) ⟨(by show _ ≤ (700 : Nat); omega), (by show _ ≤ (6000 : Nat); omega)⟩ dL_law_253 (fun r_45 _ h_46 => ?_)
          obtain rfl : r_45 = 0 := h_46
          refine z_istore_n C dL_law_256 rfl (by decide) [(0, .ref sb), (1, .ref (ad 0)), (2, .int 0), (3, .int 1), (4, .int (nI k)), (5, .int 30), (6, .int 2), (7, .int 1), (8, .int 15)] [1, 2, 0, 3, 4, 5, 6, 7, 8] rfl ?_
          refine z_iload_n C dL_law_257 rfl 2 rfl ?_
          refine z_if_lt C (tgt := 280) dL_law_258 (by decide) (fun h => absurd h (by decide)) (fun _ => ?_)
          refine z_iload C dL_law_261 4 rfl ?_
          refine z_iconst C (v := 5) dL_law_263 (by decide) ?_
          refine z_irem C (v := (nI (k % 5))) dL_law_264 (by decide) (z_rem5 (by omega)) ?_
          refine z_if_gt C (tgt := 276) dL_law_265 (by decide) (fun c265_47 => ?_) (fun c265_47 => ?_)
          · skip
            have n_48 : 0 < (k % 5) := (nI_ltI (a := 0) (b := k % 5) (by omega) (by omega)).mp c265_47
            refine z_iconst C (v := 1) dL_law_276 (by decide) ?_
            refine z_goto C (tgt := 281) dL_law_277 (by decide) ?_
            refine z_istore_n C dL_law_281 rfl (by decide) [(0, .ref sb), (1, .ref (ad 0)), (2, .int 0), (3, .int 1), (4, .int (nI k)), (5, .int 30), (6, .int 2), (7, .int 1), (8, .int 15)] [1, 2, 3, 0, 4, 5, 6, 7, 8] rfl ?_
            refine z_iinc C (v := (nI (k + 1))) dL_law_282 4 rfl (nI_add k 1) (by decide) [(0, .ref sb), (1, .ref (ad 0)), (2, .int 0), (3, .int 1), (4, .int (nI (k + 1))), (5, .int 30), (6, .int 2), (7, .int 1), (8, .int 15)] [1, 2, 3, 4, 0, 5, 6, 7, 8] rfl ?_
            refine z_goto C (tgt := 55) dL_law_285 (by decide) ?_
            refine z_lv [(0, .ref sb), (1, .ref (ad 0)), (2, .int 0), (3, .int 1), (4, .int (nI (k + 1)))] [0, 1, 2, 3, 4] rfl ?_
            refine z_widen (k := (31 + 8 * (k + 1))) (n := (697 + 48 * (k + 1))) (by omega) (by omega) ?_
            refine z_cn (cn' := (6 + (k + 1) + 6 * (((k + 1) + 4) / 5))) (by omega) ?_
            exact ih_14 (k + 1) ta tn c9 (by omega) (by first | assumption | omega)
          · skip
            have n_49 : ¬ 0 < (k % 5) := fun q => c265_47 ((nI_ltI (a := 0) (b := k % 5) (by omega) (by omega)).mpr q)
            refine z_aload_n C dL_law_268 rfl 1 rfl ?_
            refine z_iload_n C dL_law_269 rfl 2 rfl ?_
            refine z_callSn C (As := [.ref (ad 0), .int 0]) (rest := []) (ws' := fun u_50 => ([(sb, .inl (cI, 140, .inl xs))] ++ (wX ad cI cZ (fun _ => 0) (fun _ => 0) u_50.2.1 u_50.2.2 (fun _ => 0) (bnI 25) (fun _ => 0) (fun _ => 0) (fun _ => 0) (fun _ => 0) (fun _ => 0) (fun _ => 0) (fun _ => 0) (fun _ => 0) (fun _ => 0) (fun _ => 0) (fun _ => 0) (fun _ => 0) u_50.1 100 100 200 0 (nI 0) (nI 0) (nI 0)))) (c_L_kept l hfl sa D cI cZ cL ad ta tn c9  ) (va_cwS 2 C.2.2.2.2.1 gL_law_L_kept rfl rfl rfl (by decide +kernel) ⟨Nat.le_of_ble_eq_true rfl, Nat.le_of_ble_eq_true rfl⟩) (fun _ => (zSub.of (wr := [(sb, .inl (cI, 140, .inl xs))]) [1, 2, 3, 4, 5, 6, 7, 8, 9, 10, 11, 12, 13, 14, 15, 16, 17, 18, 19, 20, 21, 22, 23, 24, 25] [0] [0, 1, 2, 3, 4, 5, 6, 7, 8, 9, 10, 11, 12, 13, 14, 15, 16, 17, 18, 19, 20, 21, 22, 23, 24, 25] rfl rfl rfl rfl (by decide) rfl rfl)) (zIn.of [1, 2, 3, 4, 5, 6, 7, 8, 9, 10, 11, 12, 13, 14, 15, 16, 17, 18, 19, 20, 21, 22, 23, 24, 25] rfl rfl) rfl (Nat.le_of_ble_eq_true rfl) ⟨(by show _ ≤ (700 : Nat); omega), (by show _ ≤ (6000 : Nat); omega)⟩ dL_law_270 (fun r_51 u_50 h_52 => ?_)
            obtain rfl : r_51 = 1 := h_52
            refine z_if_eq C (tgt := 280) dL_law_273 (by decide) (fun h => absurd h (by decide)) (fun _ => ?_)
            refine z_iconst C (v := 1) dL_law_276 (by decide) ?_
            refine z_goto C (tgt := 281) dL_law_277 (by decide) ?_
            refine z_istore_n C dL_law_281 rfl (by decide) [(0, .ref sb), (1, .ref (ad 0)), (2, .int 0), (3, .int 1), (4, .int (nI k)), (5, .int 30), (6, .int 2), (7, .int 1), (8, .int 15)] [1, 2, 3, 0, 4, 5, 6, 7, 8] rfl ?_
            refine z_iinc C (v := (nI (k + 1))) dL_law_282 4 rfl (nI_add k 1) (by decide) [(0, .ref sb), (1, .ref (ad 0)), (2, .int 0), (3, .int 1), (4, .int (nI (k + 1))), (5, .int 30), (6, .int 2), (7, .int 1), (8, .int 15)] [1, 2, 3, 4, 0, 5, 6, 7, 8] rfl ?_
            refine z_goto C (tgt := 55) dL_law_285 (by decide) ?_
            refine z_lv [(0, .ref sb), (1, .ref (ad 0)), (2, .int 0), (3, .int 1), (4, .int (nI (k + 1)))] [0, 1, 2, 3, 4] rfl ?_
            refine z_widen (k := (31 + 8 * (k + 1))) (n := (697 + 48 * (k + 1))) (by omega) (by omega) ?_
            refine z_cn (cn' := (6 + (k + 1) + 6 * (((k + 1) + 4) / 5))) (by omega) ?_
            exact ih_14 (k + 1) u_50.2.1 u_50.2.2 u_50.1 (by omega) (by first | assumption | omega)
  refine z_lveq [(0, .ref sb), (1, .ref (ad 0)), (2, .int 0), (3, .int 1), (4, .int (nI 0))] (by rfl) ?_
  exact L55_k_13 (70 - 0 + 1) 0 u_8.2.1 u_8.2.2 u_8.1 (Nat.lt_succ_self _) (by first | assumption | omega)
