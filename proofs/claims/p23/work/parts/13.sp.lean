/-! what both sides compute: rows of numbers, queues, sets -/
section SP
def ix (x : Int32) : Nat := x.toNatClampNeg
theorem ix_nI {n : Nat} (h : n < 2 ^ 31) : ix (nI n) = n := nI_clamp h
def wf5 (n : Nat) (f : Nat → Int32) : Prop := ∀ p, p < n → f p = nI (ix (f p)) ∧ ix (f p) < 5
def wfB (f : Nat → Int32) : Prop := ∀ p, f p = 0 ∨ f p = 1
theorem z_mulc (c y : Nat) : nI c * nI y = nI (y * c) := by rw [Nat.mul_comm]; exact pk_mul c y
/-- x leaves f for t -/
def mvA (f t : Nat) (x : Int32) (g : Nat → Int32) : Nat → Int32 := upd (upd g f (g f - x)) t (upd g f (g f - x) t + x)
def mvN (f t : Nat) (x : Int32) (g : Nat → Int32) : Nat → Int32 := upd (upd g (f * 5 + t) (g (f * 5 + t) + x)) (t * 5 + f) (upd g (f * 5 + t) (g (f * 5 + t) + x) (t * 5 + f) - x)
def cntW (wai : Nat → Int32) : Nat → Nat
  | 0 => 0
  | n + 1 => cntW wai n + if wai n = 0 then 0 else 1
theorem cntW_le (wai : Nat → Int32) : ∀ n, cntW wai n ≤ n
  | 0 => Nat.le_refl 0
  | n + 1 => by have := cntW_le wai n; unfold cntW; split <;> omega
/-- why a payment doesn't go -/
def obs (acc net flo bnd frm too amt wai : Nat → Int32) (p : Nat) : Int32 := if wai p = 0 then 3 else if flo (ix (frm p)) ≤ acc (ix (frm p)) - amt p then (if net (ix (frm p) * 5 + ix (too p)) + amt p ≤ bnd (ix (frm p) * 5 + ix (too p)) then 0 else 2) else 1
def ordL (pri : Nat → Int32) (n : Nat) : List Nat := (List.range n).filter (fun p => decide (pri p = 2)) ++ ((List.range n).filter (fun p => decide (pri p = 1)) ++ (List.range n).filter (fun p => decide (pri p = 0)))
def isq (wai frm : Nat → Int32) (b : Nat) (p : Nat) : Bool := decide (wai p ≠ 0 ∧ ix (frm p) = b)
def oI : Option Nat → Int32
  | none => -1
  | some p => nI p
def atQ (L : List Nat) (f : Nat → Bool) (k : Nat) : Option Nat := (L.filter f)[k]?
def bypOK (byp pri : Nat → Int32) (n : Nat) : Prop := ∀ i, i < n → ∃ p, (ordL pri n)[i]? = some p ∧ byp i = nI p
def snd5 (acc flo net bnd : Nat → Int32) : Prop := (∀ b, b < 5 → flo b ≤ acc b) ∧ ∀ q, q < 25 → net q ≤ bnd q
def clrN (net : Nat → Int32) (i : Nat) : Nat → Int32 := fun k => if k < i then 0 else net k
theorem clrN_0 (net : Nat → Int32) : clrN net 0 = net := by funext k; simp [clrN]
theorem clrN_s (net : Nat → Int32) (i : Nat) : upd (clrN net i) i 0 = clrN net (i + 1) := by
  funext k
  unfold upd clrN
  by_cases h : k = i
  · subst h; simp
  · simp only [h, if_false]
    by_cases h2 : k < i
    · rw [if_pos h2, if_pos (by omega)]
    · rw [if_neg h2, if_neg (by omega)]
def dropW (frm too : Nat → Int32) (b i : Nat) (wai : Nat → Int32) : Nat → Int32 := fun p => if p < i ∧ (ix (frm p) = b ∨ ix (too p) = b) then 0 else wai p
theorem dropW_0 (frm too wai : Nat → Int32) (b : Nat) : dropW frm too b 0 wai = wai := by funext k; simp [dropW]
theorem dropW_y {frm too wai : Nat → Int32} {b i : Nat} (h : ix (frm i) = b ∨ ix (too i) = b) : upd (dropW frm too b i wai) i 0 = dropW frm too b (i + 1) wai := by
  funext k
  unfold upd dropW
  by_cases e : k = i
  · subst e; simp [h]
  · simp only [e, if_false]
    by_cases h2 : k < i
    · simp [h2, show k < i + 1 by omega]
    · simp [h2, show ¬ k < i + 1 by omega]
theorem dropW_n {frm too wai : Nat → Int32} {b i : Nat} (h : ¬ ix (frm i) = b) (h2 : ¬ ix (too i) = b) : dropW frm too b i wai = dropW frm too b (i + 1) wai := by
  funext k
  unfold dropW
  by_cases e : k = i
  · subst e; simp [h, h2]
  · by_cases h3 : k < i
    · simp [h3, show k < i + 1 by omega]
    · simp [h3, show ¬ k < i + 1 by omega]
theorem filt_le (q : Nat → Nat → Bool) (hd : ∀ p a b, q a p = true → q b p = true → a = b) : ∀ n, ((List.range n).filter (q 2)).length + (((List.range n).filter (q 1)).length + ((List.range n).filter (q 0)).length) ≤ n
  | 0 => by simp
  | n + 1 => by
    have ih := filt_le q hd n
    simp only [List.range_succ, List.filter_append, List.length_append]
    have h1 := hd n 2 1
    have h2 := hd n 2 0
    have h3 := hd n 1 0
    cases e2 : q 2 n <;> cases e1 : q 1 n <;> cases e0 : q 0 n <;> simp_all <;> omega
theorem ordL_len (pri : Nat → Int32) (n : Nat) : (ordL pri n).length ≤ n := by
  have h := filt_le (fun a p => decide (pri p = nI a) && decide (a < 3)) (by
    intro p a b h1 h2
    simp only [Bool.and_eq_true, decide_eq_true_eq] at h1 h2
    exact (nI_eq (by omega) (by omega)).mp (h1.1.symm.trans h2.1)) n
  unfold ordL
  simp only [List.length_append]
  simp at h
  exact h
theorem ordL_mem {pri : Nat → Int32} {n p : Nat} (h : p ∈ ordL pri n) : p < n := by
  unfold ordL at h
  simp only [List.mem_append, List.mem_filter, List.mem_range] at h
  omega
theorem atQ_found {L : List Nat} {f : Nat → Bool} {i k p : Nat} (hi : L[i]? = some p) (hf : f p = true) (ha : k = ((L.take i).filter f).length) : atQ L f k = some p := by
  obtain ⟨hl, hp⟩ := List.getElem?_eq_some_iff.mp hi
  have e : L = L.take i ++ p :: L.drop (i + 1) := by
    rw [← hp, List.getElem_cons_drop, List.take_append_drop]
  unfold atQ
  have e2 : L.filter f = (L.take i).filter f ++ p :: (L.drop (i + 1)).filter f := by
    conv => lhs; rw [e]
    rw [List.filter_append, List.filter_cons, if_pos hf]
  rw [e2, ha, List.getElem?_append_right (Nat.le_refl _)]
  simp
theorem atQ_yes {L : List Nat} {f : Nat → Bool} {i p : Nat} (hi : L[i]? = some p) (hf : f p = true) : ((L.take (i + 1)).filter f).length = ((L.take i).filter f).length + 1 := by
  rw [List.take_succ, hi, List.filter_append]
  simp [hf]
theorem atQ_no {L : List Nat} {f : Nat → Bool} {i p : Nat} (hi : L[i]? = some p) (hf : ¬ f p = true) : ((L.take (i + 1)).filter f).length = ((L.take i).filter f).length := by
  rw [List.take_succ, hi, List.filter_append]
  simp [hf]
theorem atQ_end {L : List Nat} {f : Nat → Bool} {i k : Nat} (hi : L.length ≤ i) (ha : ((L.take i).filter f).length ≤ k) : atQ L f k = none := by
  rw [List.take_of_length_le hi] at ha
  unfold atQ
  exact List.getElem?_eq_none ha
theorem atQ_mem {L : List Nat} {f : Nat → Bool} {k p : Nat} (h : atQ L f k = some p) : p ∈ L ∧ f p = true := List.mem_filter.mp (List.mem_of_getElem? h)
theorem nI_m1 {n : Nat} (h : n < 2147483648) : ¬ nI n = -1 := by
  intro e
  have h1 := nI_toInt (n := n) h
  rw [e] at h1
  have h2 : (-1 : Int32).toInt = -1 := by decide
  omega
/-- small payments of a bank that can go -/
def fsm (acc net flo bnd frm too amt wai : Nat → Int32) (small : Int32) (b : Nat) (q : Nat) : Bool := isq wai frm b q && (decide (¬ small < amt q) && decide (obs acc net flo bnd frm too amt wai q = 0))
def nxtQ (L : List Nat) (acc net flo bnd frm too amt wai : Nat → Int32) (small : Int32) (b : Nat) : Option Nat :=
  match atQ L (isq wai frm b) 0 with
  | none => none
  | some p => if obs acc net flo bnd frm too amt wai p = 0 then some p else L.find? (fsm acc net flo bnd frm too amt wai small b)
theorem fd_found {L : List Nat} {f : Nat → Bool} {i p : Nat} (hi : L[i]? = some p) (hf : f p = true) (ha : (L.take i).find? f = none) : L.find? f = some p := by
  obtain ⟨hl, hp⟩ := List.getElem?_eq_some_iff.mp hi
  have e : L = L.take i ++ p :: L.drop (i + 1) := by
    rw [← hp, List.getElem_cons_drop, List.take_append_drop]
  rw [e, List.find?_append, ha]
  simp [hf]
theorem fd_no {L : List Nat} {f : Nat → Bool} {i p : Nat} (hi : L[i]? = some p) (hf : ¬ f p = true) (ha : (L.take i).find? f = none) : (L.take (i + 1)).find? f = none := by
  rw [List.take_succ, hi, List.find?_append, ha]
  simp [hf]
theorem fd_end {L : List Nat} {f : Nat → Bool} {i : Nat} (hi : L.length ≤ i) (ha : (L.take i).find? f = none) : L.find? f = none := by
  rw [List.take_of_length_le hi] at ha
  exact ha
theorem fd_mem {L : List Nat} {f : Nat → Bool} {p : Nat} (h : L.find? f = some p) : p ∈ L ∧ f p = true := ⟨List.mem_of_find?_eq_some h, List.find?_some h⟩
theorem fsm_isq {acc net flo bnd frm too amt wai : Nat → Int32} {small : Int32} {b q : Nat} (h : fsm acc net flo bnd frm too amt wai small b q = true) : isq wai frm b q = true := by
  unfold fsm at h
  simp only [Bool.and_eq_true] at h
  exact h.1
theorem nxtQ_mem {pri acc net flo bnd frm too amt wai : Nat → Int32} {small : Int32} {n b p : Nat} (h : nxtQ (ordL pri n) acc net flo bnd frm too amt wai small b = some p) : p < n ∧ isq wai frm b p = true := by
  unfold nxtQ at h
  cases e : atQ (ordL pri n) (isq wai frm b) 0 with
  | none => rw [e] at h; cases h
  | some q =>
    rw [e] at h
    dsimp only at h
    split at h
    · cases h
      exact ⟨ordL_mem (atQ_mem e).1, (atQ_mem e).2⟩
    · exact ⟨ordL_mem (fd_mem h).1, fsm_isq (fd_mem h).2⟩
/-- a going through the banks: accounts, paid, waiting, how many went -/
abbrev T4 : Type := (Nat → Int32) × (Nat → Int32) × (Nat → Int32) × Nat
def passF (L : List Nat) (flo bnd frm too amt : Nat → Int32) (small : Int32) (acc net wai : Nat → Int32) : Nat → T4
  | 0 => (acc, net, wai, 0)
  | b + 1 => match nxtQ L (passF L flo bnd frm too amt small acc net wai b).1 (passF L flo bnd frm too amt small acc net wai b).2.1 flo bnd frm too amt (passF L flo bnd frm too amt small acc net wai b).2.2.1 small b with
    | none => passF L flo bnd frm too amt small acc net wai b
    | some p => (mvA (ix (frm p)) (ix (too p)) (amt p) (passF L flo bnd frm too amt small acc net wai b).1, mvN (ix (frm p)) (ix (too p)) (amt p) (passF L flo bnd frm too amt small acc net wai b).2.1, upd (passF L flo bnd frm too amt small acc net wai b).2.2.1 p 0, (passF L flo bnd frm too amt small acc net wai b).2.2.2 + 1)
theorem sp_and (a b : Nat) : nI a &&& nI b = nI (a &&& b) := by
  apply Int32.toBitVec_inj.1
  show BitVec.ofNat 32 a &&& BitVec.ofNat 32 b = BitVec.ofNat 32 (a &&& b)
  apply BitVec.eq_of_getLsbD_eq
  intro i hi
  simp [hi]
theorem z_shl1 {k : Nat} (hk : k < 11) : (1 : Int32) <<< (nI k &&& 31) = nI (2 ^ k) := by
  have h : ∀ k, k < 11 → (1 : Int32) <<< (nI k &&& 31) = nI (2 ^ k) := by decide
  exact h k hk
theorem z_bit {S k : Nat} (hS : S < 1024) (hk : k < 10) : (nI S &&& nI (2 ^ k)) = 0 ↔ S.testBit k = false := by
  have h2 : (2 : Nat) ^ k ≤ 512 := Nat.le_trans (Nat.pow_le_pow_right (by decide) (show k ≤ 9 by omega)) (by decide)
  have hle : S &&& 2 ^ k ≤ 2 ^ k := Nat.and_le_right
  rw [sp_and]
  have e : nI (S &&& 2 ^ k) = 0 ↔ S &&& 2 ^ k = 0 := nI_eq (b := 0) (by omega) (by decide)
  rw [e]
  constructor
  · intro h
    have h1 : (S &&& 2 ^ k).testBit k = false := by rw [h]; simp
    rw [Nat.testBit_and] at h1
    simpa [Nat.testBit_two_pow_self] using h1
  · intro h
    apply Nat.eq_of_testBit_eq
    intro i
    rw [Nat.testBit_and, Nat.testBit_two_pow]
    by_cases hi : k = i
    · subst hi; simp [h]
    · simp [hi]
def pc5 (S : Nat) : Nat := 0 + (S.testBit 0).toNat + (S.testBit 1).toNat + (S.testBit 2).toNat + (S.testBit 3).toNat + (S.testBit 4).toNat
theorem pc5_le (S : Nat) : pc5 S ≤ 5 := by
  unfold pc5
  have h : ∀ b : Bool, b.toNat ≤ 1 := fun b => by cases b <;> decide
  have h0 := h (S.testBit 0); have h1 := h (S.testBit 1); have h2 := h (S.testBit 2); have h3 := h (S.testBit 3); have h4 := h (S.testBit 4)
  omega
def sndB (acc flo net bnd : Nat → Int32) : Bool := (List.range 5).all (fun b => decide (flo b ≤ acc b)) && (List.range 25).all (fun q => decide (net q ≤ bnd q))
theorem sndB_iff {acc flo net bnd : Nat → Int32} : sndB acc flo net bnd = true ↔ (∀ b, b < 5 → flo b ≤ acc b) ∧ ∀ q, q < 25 → net q ≤ bnd q := by
  unfold sndB
  rw [Bool.and_eq_true, List.all_eq_true, List.all_eq_true]
  simp only [List.mem_range, decide_eq_true_eq]
theorem sndB_cong {a a' n n' flo bnd : Nat → Int32} (ha : ∀ k, k < 5 → a k = a' k) (hn : ∀ k, k < 25 → n k = n' k) : sndB a flo n bnd = sndB a' flo n' bnd := by
  rw [Bool.eq_iff_iff, sndB_iff, sndB_iff]
  constructor
  · exact fun h => ⟨fun b hb => by rw [← ha b hb]; exact h.1 b hb, fun q hq => by rw [← hn q hq]; exact h.2 q hq⟩
  · exact fun h => ⟨fun b hb => by rw [ha b hb]; exact h.1 b hb, fun q hq => by rw [hn q hq]; exact h.2 q hq⟩
/-- the payments of a set go, one behind another -/
def goS (frm too amt : Nat → Int32) (cn : Nat → Option Nat) (S : Nat) (g h : Nat → Int32) : Nat → Option ((Nat → Int32) × (Nat → Int32))
  | 0 => some (g, h)
  | k + 1 => match goS frm too amt cn S g h k with
    | none => none
    | some r => if S.testBit k = true then (match cn k with
      | none => none
      | some p => some (mvA (ix (frm p)) (ix (too p)) (amt p) r.1, mvN (ix (frm p)) (ix (too p)) (amt p) r.2)) else some r
theorem upd_cong {a b : Nat → Int32} {n k : Nat} {x y : Int32} (h : ∀ j, j < n → a j = b j) (e : x = y) : ∀ j, j < n → upd a k x j = upd b k y j := by
  intro j hj
  unfold upd
  by_cases q : j = k
  · simp [q, e]
  · simp [q, h j hj]
theorem mvA_cong {a b : Nat → Int32} {f t : Nat} {x : Int32} (hf : f < 5) (ht : t < 5) (h : ∀ j, j < 5 → a j = b j) : ∀ j, j < 5 → mvA f t x a j = mvA f t x b j := by
  have h1 : ∀ j, j < 5 → upd a f (a f - x) j = upd b f (b f - x) j := upd_cong h (by rw [h f hf])
  exact upd_cong h1 (by rw [h1 t ht])
theorem mvN_cong {a b : Nat → Int32} {f t : Nat} {x : Int32} (hf : f < 5) (ht : t < 5) (h : ∀ j, j < 25 → a j = b j) : ∀ j, j < 25 → mvN f t x a j = mvN f t x b j := by
  have h1 : ∀ j, j < 25 → upd a (f * 5 + t) (a (f * 5 + t) + x) j = upd b (f * 5 + t) (b (f * 5 + t) + x) j := upd_cong h (by rw [h _ (by omega)])
  exact upd_cong h1 (by rw [h1 _ (by omega)])
theorem goS_cong {frm too amt : Nat → Int32} {cn : Nat → Option Nat} {S n : Nat} {g h g' h' : Nat → Int32} (hf : wf5 n frm) (ht : wf5 n too) (hcn : ∀ k p, cn k = some p → p < n) (hg : ∀ j, j < 5 → g j = g' j) (hh : ∀ j, j < 25 → h j = h' j) : ∀ k,
    (goS frm too amt cn S g h k = none ∧ goS frm too amt cn S g' h' k = none) ∨ ∃ r r', goS frm too amt cn S g h k = some r ∧ goS frm too amt cn S g' h' k = some r' ∧ (∀ j, j < 5 → r.1 j = r'.1 j) ∧ ∀ j, j < 25 → r.2 j = r'.2 j
  | 0 => Or.inr ⟨_, _, rfl, rfl, hg, hh⟩
  | k + 1 => by
    rcases goS_cong (amt := amt) (S := S) hf ht hcn hg hh k with ⟨e1, e2⟩ | ⟨r, r', e1, e2, h1, h2⟩
    · exact Or.inl ⟨by simp only [goS, e1], by simp only [goS, e2]⟩
    · by_cases hb : S.testBit k = true
      · cases hc : cn k with
        | none => exact Or.inl ⟨by simp only [goS, e1, hb, if_true, hc], by simp only [goS, e2, hb, if_true, hc]⟩
        | some p =>
          refine Or.inr ⟨_, _, by simp only [goS, e1, hb, if_true, hc]; rfl, by simp only [goS, e2, hb, if_true, hc]; rfl, ?_, ?_⟩
          · exact mvA_cong (hf p (hcn k p hc)).2 (ht p (hcn k p hc)).2 h1
          · exact mvN_cong (hf p (hcn k p hc)).2 (ht p (hcn k p hc)).2 h2
      · exact Or.inr ⟨r, r', by simp only [goS, e1, hb]; rfl, by simp only [goS, e2, hb]; rfl, h1, h2⟩
theorem goS_none {frm too amt : Nat → Int32} {cn : Nat → Option Nat} {S : Nat} {g h : Nat → Int32} {k : Nat} (e : goS frm too amt cn S g h k = none) : ∀ j, goS frm too amt cn S g h (k + j) = none
  | 0 => e
  | j + 1 => by
    have := goS_none e j
    show goS frm too amt cn S g h ((k + j) + 1) = none
    simp only [goS, this]
def okS (frm too amt flo bnd : Nat → Int32) (cn : Nat → Option Nat) (c : Nat) (acc net : Nat → Int32) (S : Nat) : Bool :=
  match goS frm too amt cn S acc net c with
  | none => false
  | some r => sndB r.1 flo r.2 bnd
theorem okS_e {frm too amt flo bnd acc net : Nat → Int32} {cn : Nat → Option Nat} {S c : Nat} (e : goS frm too amt cn S acc net c = none) : okS frm too amt flo bnd cn c acc net S = false := by
  unfold okS; rw [e]
abbrev cpA (acc tacc : Nat → Int32) : Nat → Int32 := va_cpy acc tacc 0 0 5
abbrev cpN (net tnet : Nat → Int32) : Nat → Int32 := va_cpy net tnet 0 0 25
theorem cpA_at {acc tacc : Nat → Int32} : ∀ j, j < 5 → cpA acc tacc j = acc j := fun j h => by rw [cpA, pk_cpy_in (Nat.zero_le j) (by omega)]; simp
theorem cpN_at {acc tacc : Nat → Int32} : ∀ j, j < 25 → cpN acc tacc j = acc j := fun j h => by rw [cpN, pk_cpy_in (Nat.zero_le j) (by omega)]; simp
theorem okS_none {frm too amt flo bnd acc net tacc tnet : Nat → Int32} {cn : Nat → Option Nat} {S n k c : Nat} (hf : wf5 n frm) (ht : wf5 n too) (hcn : ∀ k p, cn k = some p → p < n) (hk : k ≤ c) (e : goS frm too amt cn S (cpA acc tacc) (cpN net tnet) k = none) : okS frm too amt flo bnd cn c acc net S = false := by
  have e1 := goS_none e (c - k)
  rw [show k + (c - k) = c by omega] at e1
  unfold okS
  rcases goS_cong (amt := amt) (S := S) hf ht hcn (cpA_at (acc := acc) (tacc := tacc)) (cpN_at (acc := net) (tacc := tnet)) c with ⟨e2, e3⟩ | ⟨r, r', e2, e3, h1, h2⟩
  · rw [e3]
  · rw [e1] at e2; cases e2
theorem okS_some {frm too amt flo bnd acc net tacc tnet : Nat → Int32} {cn : Nat → Option Nat} {S n c : Nat} {r : (Nat → Int32) × (Nat → Int32)} (hf : wf5 n frm) (ht : wf5 n too) (hcn : ∀ k p, cn k = some p → p < n) (e : goS frm too amt cn S (cpA acc tacc) (cpN net tnet) c = some r) : okS frm too amt flo bnd cn c acc net S = sndB r.1 flo r.2 bnd := by
  unfold okS
  rcases goS_cong (amt := amt) (S := S) hf ht hcn (cpA_at (acc := acc) (tacc := tacc)) (cpN_at (acc := net) (tacc := tnet)) c with ⟨e2, e3⟩ | ⟨r1, r', e2, e3, h1, h2⟩
  · rw [e] at e2; cases e2
  · rw [e] at e2; cases e2
    rw [e3]
    exact sndB_cong (fun k hk => (h1 k hk).symm) (fun k hk => (h2 k hk).symm)
def wlL (wai : Nat → Int32) (n : Nat) : List Nat := (List.range n).filter (fun p => decide (wai p ≠ 0))
theorem wlL_len (wai : Nat → Int32) : ∀ n, (wlL wai n).length = cntW wai n
  | 0 => rfl
  | n + 1 => by
    have := wlL_len wai n
    unfold wlL at this ⊢
    rw [List.range_succ, List.filter_append, List.length_append, this, cntW]
    by_cases h : wai n = 0 <;> simp [h]
theorem wlL_y {wai : Nat → Int32} {n : Nat} (h : ¬ wai n = 0) : wlL wai (n + 1) = wlL wai n ++ [n] := by
  unfold wlL
  rw [List.range_succ, List.filter_append]
  simp [h]
theorem wlL_n {wai : Nat → Int32} {n : Nat} (h : wai n = 0) : wlL wai (n + 1) = wlL wai n := by
  unfold wlL
  rw [List.range_succ, List.filter_append]
  simp [h]
theorem wlL_pre (wai : Nat → Int32) (n : Nat) : ∀ j, ∃ r, wlL wai (n + j) = wlL wai n ++ r
  | 0 => ⟨[], by simp⟩
  | j + 1 => by
    obtain ⟨r, hr⟩ := wlL_pre wai n j
    by_cases h : wai (n + j) = 0
    · exact ⟨r, by rw [← Nat.add_assoc, wlL_n h, hr]⟩
    · exact ⟨r ++ [n + j], by rw [← Nat.add_assoc, wlL_y h, hr, List.append_assoc]⟩
theorem wlL_full {wai : Nat → Int32} {n i : Nat} (hi : i ≤ n) (h : (wlL wai n).length ≤ (wlL wai i).length) : wlL wai n = wlL wai i := by
  obtain ⟨r, hr⟩ := wlL_pre wai i (n - i)
  rw [show i + (n - i) = n by omega] at hr
  rw [hr, List.length_append] at h
  have : r = [] := List.eq_nil_of_length_eq_zero (by omega)
  rw [hr, this, List.append_nil]
theorem wlL_mem {wai : Nat → Int32} {n k p : Nat} (h : (wlL wai n)[k]? = some p) : p < n := by
  have := List.mem_of_getElem? h
  unfold wlL at this
  exact List.mem_range.mp (List.mem_filter.mp this).1
theorem cn_step {f : Nat → Int32} {L : List Nat} {p : Nat} (h : ∀ k, k < L.length → f k = oI L[k]?) : ∀ k, k < (L ++ [p]).length → upd f L.length (nI p) k = oI (L ++ [p])[k]? := by
  intro k hk
  rw [List.length_append, List.length_singleton] at hk
  unfold upd
  by_cases e : k = L.length
  · subst e; simp [oI]
  · rw [if_neg e, List.getElem?_append_left (by omega)]
    exact h k (by omega)
def filC (f : Nat → Option Nat) (c : Nat → Int32) (i : Nat) : Nat → Int32 := fun k => if k < i then oI (f k) else c k
theorem filC_0 (f : Nat → Option Nat) (c : Nat → Int32) : filC f c 0 = c := by funext k; simp [filC]
theorem filC_s {f : Nat → Option Nat} {c : Nat → Int32} {i : Nat} {x : Int32} (h : oI (f i) = x) : upd (filC f c i) i x = filC f c (i + 1) := by
  subst h
  funext k
  unfold upd filC
  by_cases e : k = i
  · subst e; simp
  · simp only [e, if_false]
    by_cases h2 : k < i
    · simp [h2, show k < i + 1 by omega]
    · simp [h2, show ¬ k < i + 1 by omega]
def fcnQ (L : List Nat) (wai frm : Nat → Int32) (b : Nat) : Option Nat := atQ L (isq wai frm b) 0
theorem fcnQ_lt {pri wai frm : Nat → Int32} {n : Nat} : ∀ k p, fcnQ (ordL pri n) wai frm k = some p → p < n := fun k p h => ordL_mem (atQ_mem h).1
def bestS (ok : Nat → Bool) : Nat → Nat
  | 0 => 0
  | s + 1 => if pc5 (bestS ok s) < pc5 s ∧ ok s = true then s else bestS ok s
theorem bestS_lt (ok : Nat → Bool) : ∀ s, bestS ok s ≤ s
  | 0 => Nat.le_refl 0
  | s + 1 => by have := bestS_lt ok s; unfold bestS; split <;> omega
theorem bestS_ok (ok : Nat → Bool) : ∀ s, bestS ok s = 0 ∨ ok (bestS ok s) = true
  | 0 => Or.inl rfl
  | s + 1 => by
    unfold bestS
    split
    · rename_i h; exact Or.inr h.2
    · exact bestS_ok ok s
theorem goS_bit {frm too amt : Nat → Int32} {cn : Nat → Option Nat} {S : Nat} {g h : Nat → Int32} {k : Nat} (hb : S.testBit k = true) (hc : cn k = none) : goS frm too amt cn S g h (k + 1) = none := by
  unfold goS
  cases e : goS frm too amt cn S g h k with
  | none => rfl
  | some r => simp only [hb, if_true, hc]
theorem best_some {frm too amt flo bnd acc net : Nat → Int32} {cn : Nat → Option Nat} {k s : Nat} (hk : k < 5) (hb : (bestS (okS frm too amt flo bnd cn 5 acc net) s).testBit k = true) : ¬ cn k = none := by
  intro hc
  rcases bestS_ok (okS frm too amt flo bnd cn 5 acc net) s with h | h
  · rw [h] at hb; simp at hb
  · have e := goS_none (goS_bit (frm := frm) (too := too) (amt := amt) (g := acc) (h := net) hb hc) (4 - k)
    rw [show k + 1 + (4 - k) = 5 by omega] at e
    rw [okS_e e] at h
    cases h
/-- what goes of a set -/
def snB (frm too amt : Nat → Int32) (cn : Nat → Option Nat) (S : Nat) (acc net wai : Nat → Int32) : Nat → (Nat → Int32) × (Nat → Int32) × (Nat → Int32)
  | 0 => (acc, net, wai)
  | k + 1 => if S.testBit k = true then (match cn k with
      | none => snB frm too amt cn S acc net wai k
      | some p => (mvA (ix (frm p)) (ix (too p)) (amt p) (snB frm too amt cn S acc net wai k).1, mvN (ix (frm p)) (ix (too p)) (amt p) (snB frm too amt cn S acc net wai k).2.1, upd (snB frm too amt cn S acc net wai k).2.2 p 0)) else snB frm too amt cn S acc net wai k
def bestQ (L : List Nat) (flo bnd frm too amt acc net wai : Nat → Int32) : Nat := bestS (okS frm too amt flo bnd (fcnQ L wai frm) 5 acc net) 32
def togF (L : List Nat) (flo bnd frm too amt acc net wai : Nat → Int32) : T4 :=
  ((snB frm too amt (fcnQ L wai frm) (bestQ L flo bnd frm too amt acc net wai) acc net wai 5).1, (snB frm too amt (fcnQ L wai frm) (bestQ L flo bnd frm too amt acc net wai) acc net wai 5).2.1, (snB frm too amt (fcnQ L wai frm) (bestQ L flo bnd frm too amt acc net wai) acc net wai 5).2.2, pc5 (bestQ L flo bnd frm too amt acc net wai))
def rndF (L : List Nat) (flo bnd frm too amt : Nat → Int32) (small : Int32) (acc net wai : Nat → Int32) : T4 :=
  if (passF L flo bnd frm too amt small acc net wai 5).2.2.2 = 0 then togF L flo bnd frm too amt (passF L flo bnd frm too amt small acc net wai 5).1 (passF L flo bnd frm too amt small acc net wai 5).2.1 (passF L flo bnd frm too amt small acc net wai 5).2.2.1 else passF L flo bnd frm too amt small acc net wai 5
def runF (L : List Nat) (flo bnd frm too amt : Nat → Int32) (small : Int32) : Nat → (Nat → Int32) → (Nat → Int32) → (Nat → Int32) → Int32 → (Nat → Int32) × (Nat → Int32) × (Nat → Int32) × Int32
  | 0, acc, net, wai, g => (acc, net, wai, g)
  | f + 1, acc, net, wai, g => if (rndF L flo bnd frm too amt small acc net wai).2.2.2 = 0 then ((rndF L flo bnd frm too amt small acc net wai).1, (rndF L flo bnd frm too amt small acc net wai).2.1, (rndF L flo bnd frm too amt small acc net wai).2.2.1, g)
    else runF L flo bnd frm too amt small f (rndF L flo bnd frm too amt small acc net wai).1 (rndF L flo bnd frm too amt small acc net wai).2.1 (rndF L flo bnd frm too amt small acc net wai).2.2.1 (g + nI (rndF L flo bnd frm too amt small acc net wai).2.2.2)
def anyB (ok : Nat → Bool) (N : Nat) : Bool := (List.range N).any (fun S => decide (1 ≤ S) && ok S)
theorem anyB_y {ok : Nat → Bool} {N S : Nat} (h1 : 1 ≤ S) (h2 : S < N) (h : ok S = true) : anyB ok N = true := by
  unfold anyB
  rw [List.any_eq_true]
  exact ⟨S, List.mem_range.mpr h2, by simp [h1, h]⟩
theorem anyB_n {ok : Nat → Bool} {N : Nat} (h : ∀ S, S < N → 1 ≤ S → ok S = false) : anyB ok N = false := by
  unfold anyB
  rw [List.any_eq_false]
  intro S hS
  by_cases h1 : 1 ≤ S
  · simp [h S (List.mem_range.mp hS) h1]
  · simp [h1]
theorem bestS_1 (ok : Nat → Bool) : bestS ok 1 = 0 := by simp [bestS]
theorem bestS_y {ok : Nat → Bool} {s : Nat} (h1 : ¬ pc5 s ≤ pc5 (bestS ok s)) (h2 : ok s = true) : bestS ok (s + 1) = s := by
  rw [bestS, if_pos ⟨by omega, h2⟩]
theorem bestS_n1 {ok : Nat → Bool} {s : Nat} (h1 : pc5 s ≤ pc5 (bestS ok s)) : bestS ok (s + 1) = bestS ok s := by
  rw [bestS, if_neg (fun h => by omega)]
theorem bestS_n2 {ok : Nat → Bool} {s : Nat} (h1 : ¬ ok s = true) : bestS ok (s + 1) = bestS ok s := by
  rw [bestS, if_neg (fun h => h1 h.2)]
theorem filC_at {f : Nat → Option Nat} {c : Nat → Int32} {i k : Nat} (h : k < i) : filC f c i k = oI (f k) := by simp [filC, h]
theorem passF_le (L : List Nat) (flo bnd frm too amt : Nat → Int32) (small : Int32) (acc net wai : Nat → Int32) : ∀ b, (passF L flo bnd frm too amt small acc net wai b).2.2.2 ≤ b
  | 0 => Nat.le_refl 0
  | b + 1 => by
    have := passF_le L flo bnd frm too amt small acc net wai b
    unfold passF
    split
    · omega
    · dsimp only; omega
theorem togF_le (L : List Nat) (flo bnd frm too amt acc net wai : Nat → Int32) : (togF L flo bnd frm too amt acc net wai).2.2.2 ≤ 5 := pc5_le _
def wf3 (n : Nat) (f : Nat → Int32) : Prop := ∀ p, p < n → f p = nI (ix (f p)) ∧ ix (f p) < 3
def insP (byp : Nat → Int32) (n j : Nat) : Nat → Int32 := fun i => if j < i ∧ i ≤ n then byp (i - 1) else byp i
theorem insP_0 (byp : Nat → Int32) (n : Nat) : insP byp n n = byp := by
  funext i; unfold insP; rw [if_neg (by omega)]
theorem insP_at {byp : Nat → Int32} {n j i : Nat} (h : i ≤ j) : insP byp n j i = byp i := by
  unfold insP; rw [if_neg (by omega)]
theorem insP_s {byp : Nat → Int32} {n j : Nat} {x : Int32} (h0 : 0 < j) (hj : j ≤ n) (h : byp (j - 1) = x) : upd (insP byp n j) j x = insP byp n (j - 1) := by
  subst h
  funext i
  unfold upd insP
  by_cases e : i = j
  · subst e; rw [if_pos rfl, if_pos (by omega)]
  · rw [if_neg e]
    by_cases h2 : j < i ∧ i ≤ n
    · rw [if_pos h2, if_pos (by omega)]
    · rw [if_neg h2, if_neg (by omega)]
theorem upd_ne {f : Nat → Int32} {k j : Nat} {x y : Int32} (h : j ≠ k) (e : f j = y) : upd f k x j = y := by unfold upd; rw [if_neg h]; exact e
theorem ordL_pri {pri : Nat → Int32} {n : Nat} : (ordL pri n).Pairwise (fun a b => ix (pri b) ≤ ix (pri a)) := by
  have hP : ∀ (v : Int32), ∀ a ∈ (List.range n).filter (fun p => decide (pri p = v)), pri a = v := fun v a ha => of_decide_eq_true (List.mem_filter.mp ha).2
  have hs : ∀ (v : Int32), ((List.range n).filter (fun p => decide (pri p = v))).Pairwise (fun a b => ix (pri b) ≤ ix (pri a)) := by
    intro v
    rw [List.pairwise_iff_getElem]
    intro i j hi hj _
    rw [hP v _ (List.getElem_mem hi), hP v _ (List.getElem_mem hj)]
    exact Nat.le_refl _
  unfold ordL
  rw [List.pairwise_append, List.pairwise_append]
  refine ⟨hs 2, ⟨hs 1, hs 0, fun a ha b hb => ?_⟩, fun a ha b hb => ?_⟩
  · rw [hP 1 a ha, hP 0 b hb]; decide
  · rcases List.mem_append.mp hb with hb | hb
    · rw [hP 2 a ha, hP 1 b hb]; decide
    · rw [hP 2 a ha, hP 0 b hb]; decide
theorem ordL_le {pri : Nat → Int32} {n i k p q : Nat} (h : i ≤ k) (hp : (ordL pri n)[i]? = some p) (hq : (ordL pri n)[k]? = some q) : ix (pri q) ≤ ix (pri p) := by
  obtain ⟨h1, e1⟩ := List.getElem?_eq_some_iff.mp hp
  obtain ⟨h2, e2⟩ := List.getElem?_eq_some_iff.mp hq
  rcases Nat.lt_or_eq_of_le h with h3 | h3
  · have := (List.pairwise_iff_getElem.mp (ordL_pri (pri := pri) (n := n))) i k h1 h2 h3
    rw [e1, e2] at this
    exact this
  · subst h3
    rw [hp] at hq
    cases hq
    exact Nat.le_refl _
theorem split_at {L A B : List Nat} {P : Nat → Prop} {j : Nat} (e : L = A ++ B) (hA : ∀ a ∈ A, P a) (hB : ∀ b ∈ B, ¬ P b) (hj : j ≤ L.length) (h1 : ∀ i p, i < j → L[i]? = some p → P p) (h2 : ∀ i p, j ≤ i → L[i]? = some p → ¬ P p) : j = A.length := by
  rcases Nat.lt_trichotomy j A.length with h | h | h
  · exfalso
    have e1 : L[j]? = some A[j] := by rw [e, List.getElem?_append_left h]; exact List.getElem?_eq_getElem h
    exact h2 j _ (Nat.le_refl _) e1 (hA _ (List.getElem_mem h))
  · exact h
  · exfalso
    have hl : A.length < L.length := by omega
    have e0 : L.length = A.length + B.length := by rw [e, List.length_append]
    have hb : 0 < B.length := by omega
    have e1 : L[A.length]? = some B[0] := by rw [e, List.getElem?_append_right (Nat.le_refl _), Nat.sub_self]; exact List.getElem?_eq_getElem hb
    exact hB _ (List.getElem_mem hb) (h1 A.length _ h e1)
theorem flt_upd {pri : Nat → Int32} {n : Nat} {x v : Int32} : (List.range (n + 1)).filter (fun p => decide (upd pri n x p = v)) = (List.range n).filter (fun p => decide (pri p = v)) ++ if x = v then [n] else [] := by
  rw [List.range_succ, List.filter_append]
  congr 1
  · apply List.filter_congr
    intro p hp
    have : p ≠ n := by have := List.mem_range.mp hp; omega
    simp [upd, this]
  · by_cases h : x = v <;> simp [upd, h]
theorem ins_ord {pri : Nat → Int32} {n r j : Nat} (hr : r < 3) (hw : wf3 n pri) (hj : j ≤ (ordL pri n).length) (h1 : ∀ i p, i < j → (ordL pri n)[i]? = some p → r ≤ ix (pri p)) (h2 : ∀ i p, j ≤ i → (ordL pri n)[i]? = some p → ix (pri p) < r) :
    ordL (upd pri n (nI r)) (n + 1) = (ordL pri n).take j ++ n :: (ordL pri n).drop j := by
  have hP : ∀ (v : Int32), ∀ a ∈ (List.range n).filter (fun p => decide (pri p = v)), pri a = v := fun v a ha => of_decide_eq_true (List.mem_filter.mp ha).2
  have key : ∀ A B : List Nat, ordL pri n = A ++ B → (∀ a ∈ A, r ≤ ix (pri a)) → (∀ b ∈ B, ix (pri b) < r) → (ordL pri n).take j ++ n :: (ordL pri n).drop j = A ++ n :: B := by
    intro A B e hA hB
    have hjA : j = A.length := split_at (P := fun p => r ≤ ix (pri p)) e hA (fun b hb => by have := hB b hb; omega) hj h1 (fun i p hi hp => by have := h2 i p hi hp; omega)
    rw [hjA, e]
    simp
  have e2 : ix (2 : Int32) = 2 := by decide
  have e1 : ix (1 : Int32) = 1 := by decide
  have e0 : ix (0 : Int32) = 0 := by decide
  rcases (show r = 0 ∨ r = 1 ∨ r = 2 by omega) with rfl | rfl | rfl
  · rw [key (ordL pri n) [] (by simp) (fun a _ => Nat.zero_le _) (fun b hb => by cases hb)]
    unfold ordL
    rw [flt_upd, flt_upd, flt_upd]
    simp [show ¬ nI 0 = 2 by decide, show ¬ nI 0 = 1 by decide, show nI 0 = 0 by decide]
  · rw [key ((List.range n).filter (fun p => decide (pri p = 2)) ++ (List.range n).filter (fun p => decide (pri p = 1))) ((List.range n).filter (fun p => decide (pri p = 0))) (by unfold ordL; rw [List.append_assoc]) (fun a ha => ?_) (fun b hb => by rw [hP 0 b hb]; decide)]
    · unfold ordL
      rw [flt_upd, flt_upd, flt_upd]
      simp [show ¬ nI 1 = 2 by decide, show nI 1 = 1 by decide, show ¬ nI 1 = 0 by decide]
    · rcases List.mem_append.mp ha with h | h
      · rw [hP 2 a h]; decide
      · rw [hP 1 a h]; decide
  · rw [key ((List.range n).filter (fun p => decide (pri p = 2))) ((List.range n).filter (fun p => decide (pri p = 1)) ++ (List.range n).filter (fun p => decide (pri p = 0))) rfl (fun a ha => by rw [hP 2 a ha]; decide) (fun b hb => ?_)]
    · unfold ordL
      rw [flt_upd, flt_upd, flt_upd]
      simp [show nI 2 = 2 by decide, show ¬ nI 2 = 1 by decide, show ¬ nI 2 = 0 by decide]
    · rcases List.mem_append.mp hb with h | h
      · rw [hP 1 b h]; decide
      · rw [hP 0 b h]; decide
theorem byp_len {byp pri : Nat → Int32} {n : Nat} (h : bypOK byp pri n) : (ordL pri n).length = n := by
  refine Nat.le_antisymm (ordL_len pri n) ?_
  cases n with
  | zero => exact Nat.zero_le _
  | succ k =>
    obtain ⟨p, hp, -⟩ := h k (Nat.lt_succ_self k)
    exact (List.getElem?_eq_some_iff.mp hp).1
theorem ins_ok {byp pri : Nat → Int32} {n r j : Nat} (hr : r < 3) (hw : wf3 n pri) (hb : bypOK byp pri n) (hj : j ≤ n) (h1 : ∀ i p, i < j → (ordL pri n)[i]? = some p → r ≤ ix (pri p)) (h2 : ∀ i p, j ≤ i → (ordL pri n)[i]? = some p → ix (pri p) < r) :
    bypOK (upd (insP byp n j) j (nI n)) (upd pri n (nI r)) (n + 1) := by
  have hl := byp_len hb
  intro i hi
  rw [ins_ord hr hw (by omega) h1 h2]
  rcases Nat.lt_trichotomy i j with h | h | h
  · obtain ⟨p, hp, e⟩ := hb i (by omega)
    refine ⟨p, ?_, ?_⟩
    · rw [List.getElem?_append_left (by rw [List.length_take]; omega), List.getElem?_take_of_lt h]; exact hp
    · exact upd_ne (by omega) ((insP_at (by omega)).trans e)
  · subst h
    refine ⟨n, ?_, by unfold upd; rw [if_pos rfl]⟩
    rw [List.getElem?_append_right (by rw [List.length_take]; omega), List.length_take, show i - min i (ordL pri n).length = 0 by omega]
    rfl
  · obtain ⟨p, hp, e⟩ := hb (i - 1) (by omega)
    refine ⟨p, ?_, ?_⟩
    · rw [List.getElem?_append_right (by rw [List.length_take]; omega), List.length_take, show i - min j (ordL pri n).length = (i - j - 1) + 1 by omega, List.getElem?_cons_succ, List.getElem?_drop, show j + (i - j - 1) = i - 1 by omega]
      exact hp
    · refine upd_ne (by omega) ?_
      unfold insP
      rw [if_pos (by omega)]
      exact e
theorem wf5_upd {n k : Nat} {f : Nat → Int32} (hn : n < 2147483648) (h : wf5 n f) (hk : k < 5) : wf5 (n + 1) (upd f n (nI k)) := by
  intro p hp
  unfold upd
  by_cases e : p = n
  · rw [if_pos e, ix_nI (by omega)]; exact ⟨rfl, hk⟩
  · rw [if_neg e]; exact h p (by omega)
theorem wf3_upd {n k : Nat} {f : Nat → Int32} (h : wf3 n f) (hk : k < 3) : wf3 (n + 1) (upd f n (nI k)) := by
  intro p hp
  unfold upd
  by_cases e : p = n
  · rw [if_pos e, ix_nI (by omega)]; exact ⟨rfl, hk⟩
  · rw [if_neg e]; exact h p (by omega)
/-- a pledge is sold -/
def selA (b d : Nat) (due brought : Int32) (acc : Nat → Int32) : Nat → Int32 := upd (upd acc d (acc d + (if due < brought then due else brought))) b (upd acc d (acc d + (if due < brought then due else brought)) b + (brought - (if due < brought then due else brought)))
abbrev M6 : Type := (Nat → Int32) × (Nat → Int32) × (Nat → Int32) × (Nat → Int32) × Int32 × Nat
def mnS (flo frm too ldr bor due plg : Nat → Int32) (price : Int32) (mk : Nat) (r : M6) (l : Nat) : M6 :=
  if r.2.2.1 (ix (bor l)) = 0 ∧ flo (ix (bor l)) ≤ r.1 (ix (bor l)) - due l then (mvA (ix (bor l)) (ix (ldr l)) (due l) r.1, upd r.2.1 (ix (bor l)) (r.2.1 (ix (bor l)) + plg l), r.2.2.1, r.2.2.2.1, r.2.2.2.2.1, r.2.2.2.2.2)
  else if r.2.2.1 (ix (bor l)) = 0 then (selA (ix (bor l)) (ix (ldr l)) (due l) (plg l * price) r.1, r.2.1, upd r.2.2.1 (ix (bor l)) 1, dropW frm too (ix (bor l)) mk r.2.2.2.1, r.2.2.2.2.1 + plg l * price, r.2.2.2.2.2 + 1)
  else (selA (ix (bor l)) (ix (ldr l)) (due l) (plg l * price) r.1, r.2.1, r.2.2.1, r.2.2.2.1, r.2.2.2.2.1 + plg l * price, r.2.2.2.2.2)
def mnF (flo frm too ldr bor due plg : Nat → Int32) (price : Int32) (mk : Nat) (r0 : M6) (l0 : Nat) : Nat → M6
  | 0 => r0
  | k + 1 => mnS flo frm too ldr bor due plg price mk (mnF flo frm too ldr bor due plg price mk r0 l0 k) (l0 + k)
theorem mnS_le (flo frm too ldr bor due plg : Nat → Int32) (price : Int32) (mk : Nat) (r : M6) (l : Nat) : (mnS flo frm too ldr bor due plg price mk r l).2.2.2.2.2 ≤ r.2.2.2.2.2 + 1 := by
  unfold mnS
  split
  · exact Nat.le_succ _
  · split
    · exact Nat.le_refl _
    · exact Nat.le_succ _
theorem mnF_le (flo frm too ldr bor due plg : Nat → Int32) (price : Int32) (mk : Nat) (r0 : M6) (l0 : Nat) : ∀ k, (mnF flo frm too ldr bor due plg price mk r0 l0 k).2.2.2.2.2 ≤ r0.2.2.2.2.2 + k
  | 0 => Nat.le_refl _
  | k + 1 => by
    have h1 := mnF_le flo frm too ldr bor due plg price mk r0 l0 k
    have h2 := mnS_le flo frm too ldr bor due plg price mk (mnF flo frm too ldr bor due plg price mk r0 l0 k) (l0 + k)
    show (mnS flo frm too ldr bor due plg price mk (mnF flo frm too ldr bor due plg price mk r0 l0 k) (l0 + k)).2.2.2.2.2 ≤ _
    omega
theorem hj2_s {L : List Nat} {j q : Nat} {P : Nat → Prop} (h0 : 0 < j) (hq : L[j - 1]? = some q) (hP : P q) (h : ∀ i p, j ≤ i → L[i]? = some p → P p) : ∀ i p, j - 1 ≤ i → L[i]? = some p → P p := by
  intro i p hi hp
  rcases Nat.lt_or_ge i j with h9 | h9
  · have e9 : i = j - 1 := by omega
    subst e9
    rw [hq] at hp
    cases hp
    exact hP
  · exact h i p h9 hp
theorem bestS_lt1 (ok : Nat → Bool) (s : Nat) (h : 1 ≤ s) : bestS ok s < s := by
  obtain ⟨k, rfl⟩ : ∃ k, s = k + 1 := ⟨s - 1, by omega⟩
  have := bestS_lt ok k
  unfold bestS
  split <;> omega
theorem mnS_r {flo frm too ldr bor due plg : Nat → Int32} {price : Int32} {mk l : Nat} {r : M6} (h : r.2.2.1 (ix (bor l)) = 0 ∧ flo (ix (bor l)) ≤ r.1 (ix (bor l)) - due l) : mnS flo frm too ldr bor due plg price mk r l = (mvA (ix (bor l)) (ix (ldr l)) (due l) r.1, upd r.2.1 (ix (bor l)) (r.2.1 (ix (bor l)) + plg l), r.2.2.1, r.2.2.2.1, r.2.2.2.2.1, r.2.2.2.2.2) := if_pos h
theorem mnS_c {flo frm too ldr bor due plg : Nat → Int32} {price : Int32} {mk l : Nat} {r : M6} (h : ¬ (r.2.2.1 (ix (bor l)) = 0 ∧ flo (ix (bor l)) ≤ r.1 (ix (bor l)) - due l)) (h2 : r.2.2.1 (ix (bor l)) = 0) : mnS flo frm too ldr bor due plg price mk r l = (selA (ix (bor l)) (ix (ldr l)) (due l) (plg l * price) r.1, r.2.1, upd r.2.2.1 (ix (bor l)) 1, dropW frm too (ix (bor l)) mk r.2.2.2.1, r.2.2.2.2.1 + plg l * price, r.2.2.2.2.2 + 1) := (if_neg h).trans (if_pos h2)
theorem mnS_o {flo frm too ldr bor due plg : Nat → Int32} {price : Int32} {mk l : Nat} {r : M6} (h : ¬ (r.2.2.1 (ix (bor l)) = 0 ∧ flo (ix (bor l)) ≤ r.1 (ix (bor l)) - due l)) (h2 : ¬ r.2.2.1 (ix (bor l)) = 0) : mnS flo frm too ldr bor due plg price mk r l = (selA (ix (bor l)) (ix (ldr l)) (due l) (plg l * price) r.1, r.2.1, r.2.2.1, r.2.2.2.1, r.2.2.2.2.1 + plg l * price, r.2.2.2.2.2) := (if_neg h).trans (if_neg h2)
theorem z_rng {v lo hi : Int32} (h : ¬ (¬ v < lo ∧ ¬ hi < v)) : v < lo ∨ hi < v := by
  by_cases h1 : v < lo
  · exact Or.inl h1
  · by_cases h2 : hi < v
    · exact Or.inr h2
    · exact absurd ⟨h1, h2⟩ h
theorem z_flo {f a : Int32} (h : f < -1000000 ∨ 0 < f ∨ a < f) : f < -1000000 ∨ (if a < 0 then a else 0) < f := by
  rcases h with h | h | h
  · exact Or.inl h
  · refine Or.inr ?_
    split
    · rename_i h2; exact Int32.lt_trans h2 h
    · exact h
  · refine Or.inr ?_
    split
    · exact h
    · rename_i h2; exact Int32.lt_of_le_of_lt (Int32.not_lt.mp h2) h
theorem z_bnd {x n : Int32} (h : x < 0 ∨ 1000000 < x ∨ x < n) : x < (if 0 < n then n else 0) ∨ 1000000 < x := by
  rcases h with h | h | h
  · refine Or.inl ?_
    split
    · rename_i h2; exact Int32.lt_trans h h2
    · exact h
  · exact Or.inr h
  · refine Or.inl ?_
    split
    · exact h
    · rename_i h2; exact Int32.lt_of_lt_of_le h (Int32.not_lt.mp h2)
theorem z_lnd {a b c d e f : Prop} (ha : a) (hb : b) (h : ¬ (a ∧ b ∧ c ∧ ¬ d ∧ ¬ e ∧ ¬ f)) : ¬ c ∨ d ∨ e ∨ f := by
  by_cases hc : c
  · by_cases hd : d
    · exact Or.inr (Or.inl hd)
    · by_cases he : e
      · exact Or.inr (Or.inr (Or.inl he))
      · by_cases hf : f
        · exact Or.inr (Or.inr (Or.inr hf))
        · exact absurd ⟨ha, hb, hc, hd, he, hf⟩ h
  · exact Or.inl hc
theorem z_no {ok : Nat → Bool} {s : Nat} (h : ∀ S, S < s → 1 ≤ S → ok S = false) (hs : ¬ ok s = true) : ∀ S, S < s + 1 → 1 ≤ S → ok S = false := by
  intro S h1 h2
  by_cases e : S = s
  · subst e; simpa using hs
  · exact h S (by omega) h2
theorem z_add0 (x : Int32) : x + 0 = x := by simp
theorem z_bitm (S b : Nat) (hS : S < 1024) (hb : b < 10) : ((nI S >>> (nI b &&& 31)) &&& 1) = nI ((S.testBit b).toNat) := by
  have h0 : ∀ b, b < 10 → ((nI b &&& 31).toBitVec.smod 32).toNat = b := by decide
  rw [pk_shrN (by omega) (nI b &&& 31) b (h0 b hb)]
  have h1 : S / 2 ^ b ≤ S := Nat.div_le_self _ _
  have h2 : nI (S / 2 ^ b) &&& 1 = nI (S / 2 ^ b % 2 ^ 1) := pk_andN (by omega) 1 (by decide)
  rw [h2]
  congr 1
  rw [Nat.testBit_eq_decide_div_mod_eq]
  have h3 : S / 2 ^ b % 2 ^ 1 < 2 := Nat.mod_lt _ (by decide)
  rcases (show S / 2 ^ b % 2 ^ 1 = 0 ∨ S / 2 ^ b % 2 ^ 1 = 1 by omega) with e | e
  · rw [e]
    have : ¬ (S / 2 ^ b % 2 = 1) := by rw [show (2 : Nat) = 2 ^ 1 from rfl] at e ⊢; omega
    simp [this]
  · rw [e]
    have : S / 2 ^ b % 2 = 1 := e
    simp [this]
theorem z_nbb {c : Prop} [Decidable c] : (if c then (1 : Int32) else 0) = 0 ∨ (if c then (1 : Int32) else 0) = 1 := by split <;> simp
/-- the worth of a pledge, in longs and in ints -/
theorem z_worth {x p c am : Int32} (x1 : ¬ x < 0) (x2 : ¬ 1000 < x) (p1 : ¬ p < 1) (p2 : ¬ 1000 < p) (c1 : ¬ c < 0) (c2 : ¬ 1000 < c) (a1 : ¬ am < 1) :
    ((x.toInt64 * p.toInt64) * (1000 - c).toInt64) / 1000 < am.toInt64 ↔ x * p * (1000 - c) / 1000 < am := by
  obtain ⟨x', hx', rfl⟩ := nI_of2 (M := 1000) (n := 1000) (by decide) x1 (Int32.not_lt.mp x2)
  have p0 : ¬ p < 0 := fun h => p1 (Int32.lt_trans h (by decide))
  obtain ⟨p', hp', rfl⟩ := nI_of2 (M := 1000) (n := 1000) (by decide) p0 (Int32.not_lt.mp p2)
  obtain ⟨c', hc', rfl⟩ := nI_of2 (M := 1000) (n := 1000) (by decide) c1 (Int32.not_lt.mp c2)
  have a0 : ¬ am < 0 := fun h => a1 (Int32.lt_trans h (by decide))
  obtain ⟨a', ha', rfl⟩ := nI_of a0
  have e1 : (1000 : Int32) - nI c' = nI (1000 - c') := pk_sub (a := 1000) hc'
  rw [e1, nI_l (by omega), nI_l (by omega), nI_l (by omega), nI_l ha', lN_mul, lN_mul, pk_mul, pk_mul]
  have h1 : x' * p' ≤ 1000 * 1000 := Nat.mul_le_mul hx' hp'
  have h2 : x' * p' * (1000 - c') ≤ 1000 * 1000 * 1000 := Nat.mul_le_mul h1 (Nat.sub_le _ _)
  have e2 : nI (x' * p' * (1000 - c')) / 1000 = nI (x' * p' * (1000 - c') / 1000) := pk_div (d := 1000) (by omega) (by decide) (by decide)
  have e3 : lN (x' * p' * (1000 - c')) / 1000 = lN (x' * p' * (1000 - c') / 1000) := pk_lDiv (b := 1000) (by omega) (by decide) (by decide)
  rw [e2, e3]
  have h3 : x' * p' * (1000 - c') / 1000 ≤ x' * p' * (1000 - c') := Nat.div_le_self _ _
  rw [lN_lt (by omega) ha', nI_ltI (by omega) ha']
end SP
