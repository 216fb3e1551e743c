theorem q_hfl {l : Launch} (hflags : l.flags = flags0) : l.stackTraces = false := by
  unfold Launch.stackTraces
  rw [hflags]
  decide +kernel
theorem q_arrI {s : State} {args : Array Value} (h : (Cond.arrayClass .int).before args s = true) : ∃ cA : ClassId, ArrOfT s cA .int ∧ va_RA s cA .int := by
  obtain ⟨c, k, comp, h1, h2, h3⟩ := Cond.arrayClass_spec (args := args) (first := s) (o := none) (s := s) (idx := []) h
  exact ⟨c, fun n z => ⟨fun k h => (by cases h), k, h2, comp, h3⟩, h1⟩
theorem q_arrZ {s : State} {args : Array Value} (h : (Cond.arrayClass .boolean).before args s = true) : ∃ cA : ClassId, ArrOfT s cA .boolean ∧ va_RA s cA .boolean := by
  obtain ⟨c, k, comp, h1, h2, h3⟩ := Cond.arrayClass_spec (args := args) (first := s) (o := none) (s := s) (idx := []) h
  exact ⟨c, fun n z => ⟨fun k h => (by cases h), k, h2, comp, h3⟩, h1⟩
theorem q_strT : ∀ q ∈ zStr, Cond.stringRef RX4 q.1 q.2 ∈ lw_tbl := by decide +kernel
theorem q_strN : ∀ q ∈ zStr, Cond.exactly (Term.string RX4 q.1) "java/lang/String" ∈ flatC (Jvm.Cond.and given_1 narrow_1) := by decide +kernel
theorem q_cstT : ∀ E ∈ zEs, Cond.castable E E ∈ lw_tbl := by decide +kernel
theorem q_ncN : ∀ q ∈ zNcs, Cond.not (Cond.castable q.1 q.2) ∈ flatC (Jvm.Cond.and given_1 narrow_1) := by decide +kernel
theorem q_dclT : ∀ y ∈ zDs, Cond.declares y ∈ lw_tbl := by decide +kernel
/-- a cell that holds no statics may be written too -/
theorem q_Zadd {C n d : String} {v : Value} {A0 : Nat → Prop} {U : State} {H : Heap} {b : Nat} (h : va_Z C n d v A0 U H) (hb : ∀ cell : Cell, H[b]? = some cell → cell.vm.isStatics = false) : va_Z C n d v (fun q => q = b ∨ A0 q) U H := by
  obtain ⟨cf, kf, fi, f, a, cell, h1, h2, h3, h4, h5, h6, h7, h8⟩ := h
  refine ⟨cf, kf, fi, f, a, cell, h1, h2, h3, h4, h5, h6, h7, fun z => z.elim (fun e => ?_) h8⟩
  rw [e] at h5
  rw [hb cell h5] at h6
  cases h6
theorem q_Ladd {C n d : String} {A0 : Nat → Prop} {U : State} {H : Heap} {b : Nat} (h : vx_L C n d A0 U H) (hb : ∀ cell : Cell, H[b]? = some cell → cell.vm.isStatics = false) : vx_L C n d (fun q => q = b ∨ A0 q) U H := by
  obtain ⟨c, k, i, f, a, cell, h1, h2, h3, h4, h5, h6, h7, h8, h9, h10⟩ := h
  refine ⟨c, k, i, f, a, cell, h1, h2, h3, h4, h5, h6, h7, h8, h9, fun z => z.elim (fun e => ?_) h10⟩
  rw [e] at h5
  rw [hb cell h5] at h6
  cases h6
theorem q_Zq {args : Array Value} {s : State} {C n d : String} {b : Nat} (hl : (Cond.laysStatic C n d).before args s = true) (hini : (Cond.initialized C).before args s = true) (h : (Cond.isRef (.static C n d)).before args s = true) (hb : ∀ cell : Cell, s.heap[b]? = some cell → cell.vm.isStatics = false) : vx_Zq C n d (fun q => q = b ∨ s.heap.size ≤ q) s s.heap := by
  have h0 := vx_Zqof (A := fun q => s.heap.size ≤ q) hl hini h (fun a h => Nat.not_le.mpr h)
  refine ⟨?_, q_Ladd h0.2 hb⟩
  rcases h0.1 with z | ⟨t, z⟩
  · exact Or.inl (q_Zadd z hb)
  · exact Or.inr ⟨t, q_Zadd z hb⟩
theorem q_zG {b : Nat} {s : State} (hts : ∀ w ∈ lw_tbl, w.before #[Value.ref b] s = true) (hgv : (Jvm.Cond.and given_1 narrow_1).before #[Value.ref b] s = true) (hb : ∀ cell : Cell, s.heap[b]? = some cell → cell.vm.isStatics = false) : ∃ sa : Nat → Nat, zG sa (fun q => q = b ∨ s.heap.size ≤ q) s s.heap := by
  have hs := flat_of_before _ hgv
  have h0 : ∀ k : Nat, ∃ q : Nat, (Cond.exactly (Term.string RX4 k) "java/lang/String").before #[Value.ref b] s = true → (Term.string RX4 k).eval #[Value.ref b] s none [] s = some (.ref q) := by
    intro k
    by_cases h : (Cond.exactly (Term.string RX4 k) "java/lang/String").before #[Value.ref b] s = true
    · obtain ⟨a, c, cA, kA, q1, q2⟩ := Cond.exactly_spec (args := #[Value.ref b]) (first := s) (o := none) (s := s) (idx := []) (t := Term.string RX4 k) (cls := "java/lang/String") h
      exact ⟨a, fun _ => q1⟩
    · exact ⟨0, fun h9 => absurd h9 h⟩
  obtain ⟨sa, hsa⟩ := Classical.axiomOfChoice h0
  refine ⟨sa, fun q hq => vk_R.of (hts _ (q_strT q hq)) (hsa q.1 (hs _ (q_strN q hq))), va_tabs rfl rfl (hts (.methodLinkNest RX3 18 yX4_pairOf RX4) (by decide +kernel)), fun E hE => va_tabs rfl rfl (hts (.castable E E) (q_cstT E hE)), fun q hq => va_Nc.of (hs _ (q_ncN q hq)), fun y hy => va_tabs rfl rfl (hts (.declares y) (q_dclT y hy)), ?_, ?_⟩
  · exact q_Zq (hts (.laysStatic Bundle.tN "UNASSIGNED_STACK" Bundle.steD) (by decide +kernel)) (hts (.initialized Bundle.tN) (by decide +kernel)) (hs (.isRef (.static Bundle.tN "UNASSIGNED_STACK" Bundle.steD)) (by decide +kernel)) hb
  · exact q_Zq (hts (.laysStatic Bundle.tN "SUPPRESSED_SENTINEL" Bundle.listD) (by decide +kernel)) (hts (.initialized Bundle.tN) (by decide +kernel)) (hs (.isRef (.static Bundle.tN "SUPPRESSED_SENTINEL" Bundle.listD)) (by decide +kernel)) hb
set_option maxHeartbeats 4000000 in
set_option maxRecDepth 100000 in
/-- from a start with the script xs (both numbers of each round: 30 and 2) and room enough, the law makes more cells than the claim allows -/
theorem p23_at {l : Launch} {p : Program} {e : Env} {s : State} {m : MethodId} {below : List Frame} {b : Nat} {xs : Nat → Int32} (hflags : l.flags = flags0) (hA : AtStart classFile x code maxLocals ret World_1 tables_1 room_1 Calls_1 rest_1 Pre_1 l p e s m #[Value.ref b] below) (hroom : s.hasRoom e.platform ({ frames := 11, cells := 700, slots := 6000, locals := 209 } : Room) = true)
    (hscr : ∀ cI : ClassId, va_RA s cI .int → s.heap[b]? = some (arrV cI 140 (fun j => .int (xs j)))) (hx0 : ∀ j, j < 70 → cellF (xs (j * 2)) (j * 2) = 30) (hx1 : ∀ j, j < 70 → cellF (xs (j * 2 + 1)) (j * 2 + 1) = 2) : ¬ Claimed_1_1 := by
  intro hC
  obtain ⟨hL, hW, hadm, hleast, hcas, hclk, hf, hfit, hheap, happ, hcalls, hrest, hpre⟩ := hA
  obtain ⟨n1, o1, w1, r1, e1, hpost, hframe⟩ := hC l hflags hL hW p e hadm hcas hclk s m #[Value.ref b] below hf hfit hheap happ ⟨hcalls, hrest, hpre⟩
  obtain ⟨hlo, -⟩ := (Spec.applies_iff_loose hf).mp happ
  obtain ⟨a1, a2, a3, a4, a5, a6, a7, a8⟩ := (Spec.appliesLoose_iff hf).mp hlo
  have hts0 : ∀ c ∈ (Jvm.Cond.code x code maxLocals ret :: tables_1), c.before #[Value.ref b] s = true := atoms_spec (ws := Jvm.Cond.code x code maxLocals ret :: tables_1) a8
  have hts : ∀ w ∈ lw_tbl, w.before #[Value.ref b] s = true := k2_hts_sels lw_privs (fun w hw => hts0 w (List.mem_cons_of_mem _ hw)) lw_privs_ok
  have hws : ∀ w ∈ wsL_law1, w.before #[Value.ref b] s = true := fun w hw => (List.mem_cons.mp hw).elim (fun h => by rw [h]; exact hts0 _ List.mem_cons_self) (fun h => hts w (inq_law w h))
  have happ2 : (headSpec wsL_law1 ({ frames := 11, cells := 700, slots := 6000, locals := 209 } : Room)).appliesLoose yL_law e.platform s = true := (Spec.appliesLoose_iff hf).mpr ⟨a1, a2, a3, a4, a5, a6, hroom, atoms_intro hws⟩
  obtain ⟨cI, hI1, hI2⟩ := q_arrI (hts (.arrayClass .int) (by decide +kernel))
  obtain ⟨cZ, hZ1, hZ2⟩ := q_arrZ (hts (.arrayClass .boolean) (by decide +kernel))
  have hcell := hscr cI hI2
  have hb : ∀ cell : Cell, s.heap[b]? = some cell → cell.vm.isStatics = false := by
    intro cell h
    rw [hcell] at h
    cases h
    rfl
  obtain ⟨sa, hG⟩ := q_zG hts hpre hb
  obtain ⟨c0, i0, k0⟩ := u_known (C := RX0) (T := TX0) (N := 2) (n := 2) hts inq_X0 (hts (.instantiable RX0 2) (by decide +kernel))
  obtain ⟨c1, i1, k1⟩ := u_known (C := RX1) (T := TX1) (N := 6) (n := 6) hts inq_X1 (hts (.instantiable RX1 6) (by decide +kernel))
  obtain ⟨c2, i2, k2⟩ := u_known (C := RX2) (T := TX2) (N := 7) (n := 7) hts inq_X2 (hts (.instantiable RX2 7) (by decide +kernel))
  obtain ⟨c3, i3, k3⟩ := u_known (C := RX3) (T := TX3) (N := 2) (n := 2) hts inq_X3 (hts (.instantiable RX3 2) (by decide +kernel))
  obtain ⟨c4, i4, k4⟩ := u_known (C := RX4) (T := TX4) (N := 12) (n := 12) hts inq_X4 (hts (.instantiable RX4 12) (by decide +kernel))
  obtain ⟨dC, dI, hKc⟩ : ∃ (dC : Nat → ClassId) (dI : Nat → Nat → Nat), ∀ (k : Nat) (q : vw_C), vwCl[k]? = some q → u_Kn s q.1 q.2.1 q.2.2 (dC k) (dI k) := by
    refine ⟨fun k => if k = 0 then c0 else if k = 1 then c1 else if k = 2 then c2 else if k = 3 then c3 else c4, fun k => if k = 0 then i0 else if k = 1 then i1 else if k = 2 then i2 else if k = 3 then i3 else i4, ?_⟩
    intro k q hq
    match k, hq with
    | 0, hq => cases hq; exact k0
    | 1, hq => cases hq; exact k1
    | 2, hq => cases hq; exact k2
    | 3, hq => cases hq; exact k3
    | 4, hq => cases hq; exact k4
    | k + 5, hq => simp [vwCl] at hq
  have hK : va_K (dC, dI) vwCl (zty cI cZ 0) s := by
    refine ⟨hKc, fun k q hq => ?_⟩
    match k, hq with
    | 0, hq => cases hq; exact ⟨hI1, hI2⟩
    | 1, hq => cases hq; exact ⟨hZ1, hZ2⟩
    | k + 2, hq => simp [zty] at hq
  have hP : va_P (dC, dI) vwCl [(b, .inl (cI, 140, .inl xs))] s.heap := by
    intro k q hq
    match k, hq with
    | 0, hq => cases hq; exact hcell
    | k + 1, hq => simp at hq
  have hD : va_D (fun _ => True) [(b, .inl (cI, 140, .inl xs))] := by
    refine ⟨fun i j p q hp hq _ => ?_, fun _ _ _ => trivial⟩
    match i, j, hp, hq with
    | 0, 0, _, _ => rfl
    | i + 1, _, hp, _ => simp at hp
    | _, j + 1, _, hq => simp at hq
  have hG2 : zG sa (va_A [(b, .inl (cI, 140, .inl xs))] s.heap.size) s s.heap := by
    refine zG.go (State.WarmedH.refl s) hG (fun _ _ _ => rfl) (fun q hq => ?_)
    rcases hq with ⟨k, e9, hk⟩ | hq
    · match k, hk with
      | 0, hk => cases hk; exact Or.inl rfl
      | k + 1, hk => simp at hk
    · exact Or.inr hq
  obtain ⟨n2, o2, w2, r2, e2, ⟨⟨r, u, ho, hp9, hB9, hN⟩, hF9⟩, hL9⟩ := c_L_law l (q_hfl hflags) sa (dC, dI) cI cZ 0 b xs hx0 hx1 s.heap.size p e hadm hcas hclk s m #[Value.ref b] below hf happ2 ⟨rfl, rfl, hP, hK, hD, hG2⟩ trivial
  obtain ⟨hn, -⟩ := the_end_unique (f := fun k => stepsAlone p.tables e k s) w1 e1 w2 e2
  subst hn
  have h3 : (stepsAlone p.tables e n1 s).heap.size ≤ s.heap.size + 125 := hframe.2.2.2.2.1
  omega
