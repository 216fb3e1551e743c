/-! what both sides compute: rows of numbers, queues, sets -/
section SP
def ix (x : Int32) : Nat := x.toNatClampNeg
theorem ix_nI {n : Nat} (h : n < 2 ^ 31) : ix (nI n) = n := nI_clamp h
def wf5 (n : Nat) (f : Nat → Int32) : Prop := ∀ p, p < n → f p = nI (ix (f p)) ∧ ix (f p) < 5
def wfB (f : Nat → Int32) : Prop := ∀ p, f p = 0 ∨ f p = 1
theorem z_mulc (c y : Nat) : nI c * nI y = nI (y * c) := by rw [Nat.mul_comm]; exact pk_mul c y
/-- x leaves f for t -/
def mvA (f t : Nat) (x : Int32) (g : Nat → Int32) : Nat → Int32 := upd (upd g f (g f - x)) t (upd g f (g f - x) t + x)
def mvN (f t : Nat) (x : Int32) (g : Nat → Int32) : Nat → Int32 := upd (upd g (f * 5 + t) (g (f * 5 + t) + x)) (t * 5 + f) (upd g (f * 5 + t) (g (f * 5 + t) + x) (t * 5 + f) - x)
def cntW (wai : Nat → Int32) : Nat → Nat
  | 0 => 0
  | n + 1 => cntW wai n + if wai n = 0 then 0 else 1
theorem cntW_le (wai : Nat → Int32) : ∀ n, cntW wai n ≤ n
  | 0 => Nat.le_refl 0
  | n + 1 => by have := cntW_le wai n; unfold cntW; split <;> omega
/-- why a payment doesn't go -/
def obs (acc net flo bnd frm too amt wai : Nat → Int32) (p : Nat) : Int32 := if wai p = 0 then 3 else if flo (ix (frm p)) ≤ acc (ix (frm p)) - amt p then (if net (ix (frm p) * 5 + ix (too p)) + amt p ≤ bnd (ix (frm p) * 5 + ix (too p)) then 0 else 2) else 1
def ordL (pri : Nat → Int32) (n : Nat) : List Nat := (List.range n).filter (fun p => decide (pri p = 2)) ++ ((List.range n).filter (fun p => decide (pri p = 1)) ++ (List.range n).filter (fun p => decide (pri p = 0)))
def isq (wai frm : Nat → Int32) (b : Nat) (p : Nat) : Bool := decide (wai p ≠ 0 ∧ ix (frm p) = b)
def oI : Option Nat → Int32
  | none => -1
  | some p => nI p
def atQ (L : List Nat) (f : Nat → Bool) (k : Nat) : Option Nat := (L.filter f)[k]?
def bypOK (byp pri : Nat → Int32) (n : Nat) : Prop := ∀ i, i < n → ∃ p, (ordL pri n)[i]? = some p ∧ byp i = nI p
def snd5 (acc flo net bnd : Nat → Int32) : Prop := (∀ b, b < 5 → flo b ≤ acc b) ∧ ∀ q, q < 25 → net q ≤ bnd q
def clrN (net : Nat → Int32) (i : Nat) : Nat → Int32 := fun k => if k < i then 0 else net k
theorem clrN_0 (net : Nat → Int32) : clrN net 0 = net := by funext k; simp [clrN]
theorem clrN_s (net : Nat → Int32) (i : Nat) : upd (clrN net i) i 0 = clrN net (i + 1) := by
  funext k
  unfold upd clrN
  by_cases h : k = i
  · subst h; simp
  · simp only [h, if_false]
    by_cases h2 : k < i
    · rw [if_pos h2, if_pos (by omega)]
    · rw [if_neg h2, if_neg (by omega)]
def dropW (frm too : Nat → Int32) (b i : Nat) (wai : Nat → Int32) : Nat → Int32 := fun p => if p < i ∧ (ix (frm p) = b ∨ ix (too p) = b) then 0 else wai p
theorem dropW_0 (frm too wai : Nat → Int32) (b : Nat) : dropW frm too b 0 wai = wai := by funext k; simp [dropW]
theorem dropW_y {frm too wai : Nat → Int32} {b i : Nat} (h : ix (frm i) = b ∨ ix (too i) = b) : upd (dropW frm too b i wai) i 0 = dropW frm too b (i + 1) wai := by
  funext k
  unfold upd dropW
  by_cases e : k = i
  · subst e; simp [h]
  · simp only [e, if_false]
    by_cases h2 : k < i
    · simp [h2, show k < i + 1 by omega]
    · simp [h2, show ¬ k < i + 1 by omega]
theorem dropW_n {frm too wai : Nat → Int32} {b i : Nat} (h : ¬ ix (frm i) = b) (h2 : ¬ ix (too i) = b) : dropW frm too b i wai = dropW frm too b (i + 1) wai := by
  funext k
  unfold dropW
  by_cases e : k = i
  · subst e; simp [h, h2]
  · by_cases h3 : k < i
    · simp [h3, show k < i + 1 by omega]
    · simp [h3, show ¬ k < i + 1 by omega]
theorem filt_le (q : Nat → Nat → Bool) (hd : ∀ p a b, q a p = true → q b p = true → a = b) : ∀ n, ((List.range n).filter (q 2)).length + (((List.range n).filter (q 1)).length + ((List.range n).filter (q 0)).length) ≤ n
  | 0 => by simp
  | n + 1 => by
    have ih := filt_le q hd n
    simp only [List.range_succ, List.filter_append, List.length_append]
    have h1 := hd n 2 1
    have h2 := hd n 2 0
    have h3 := hd n 1 0
    cases e2 : q 2 n <;> cases e1 : q 1 n <;> cases e0 : q 0 n <;> simp_all <;> omega
theorem ordL_len (pri : Nat → Int32) (n : Nat) : (ordL pri n).length ≤ n := by
  have h := filt_le (fun a p => decide (pri p = nI a) && decide (a < 3)) (by
    intro p a b h1 h2
    simp only [Bool.and_eq_true, decide_eq_true_eq] at h1 h2
    exact (nI_eq (by omega) (by omega)).mp (h1.1.symm.trans h2.1)) n
  unfold ordL
  simp only [List.length_append]
  simp at h
  exact h
theorem ordL_mem {pri : Nat → Int32} {n p : Nat} (h : p ∈ ordL pri n) : p < n := by
  unfold ordL at h
  simp only [List.mem_append, List.mem_filter, List.mem_range] at h
  omega
theorem atQ_found {L : List Nat} {f : Nat → Bool} {i k p : Nat} (hi : L[i]? = some p) (hf : f p = true) (ha : k = ((L.take i).filter f).length) : atQ L f k = some p := by
  obtain ⟨hl, hp⟩ := List.getElem?_eq_some_iff.mp hi
  have e : L = L.take i ++ p :: L.drop (i + 1) := by
    rw [← hp, List.getElem_cons_drop, List.take_append_drop]
  unfold atQ
  have e2 : L.filter f = (L.take i).filter f ++ p :: (L.drop (i + 1)).filter f := by
    conv => lhs; rw [e]
    rw [List.filter_append, List.filter_cons, if_pos hf]
  rw [e2, ha, List.getElem?_append_right (Nat.le_refl _)]
  simp
theorem atQ_yes {L : List Nat} {f : Nat → Bool} {i p : Nat} (hi : L[i]? = some p) (hf : f p = true) : ((L.take (i + 1)).filter f).length = ((L.take i).filter f).length + 1 := by
  rw [List.take_succ, hi, List.filter_append]
  simp [hf]
theorem atQ_no {L : List Nat} {f : Nat → Bool} {i p : Nat} (hi : L[i]? = some p) (hf : ¬ f p = true) : ((L.take (i + 1)).filter f).length = ((L.take i).filter f).length := by
  rw [List.take_succ, hi, List.filter_append]
  simp [hf]
theorem atQ_end {L : List Nat} {f : Nat → Bool} {i k : Nat} (hi : L.length ≤ i) (ha : ((L.take i).filter f).length ≤ k) : atQ L f k = none := by
  rw [List.take_of_length_le hi] at ha
  unfold atQ
  exact List.getElem?_eq_none ha
theorem atQ_mem {L : List Nat} {f : Nat → Bool} {k p : Nat} (h : atQ L f k = some p) : p ∈ L ∧ f p = true := List.mem_filter.mp (List.mem_of_getElem? h)
theorem nI_m1 {n : Nat} (h : n < 2147483648) : ¬ nI n = -1 := by
  intro e
  have h1 := nI_toInt (n := n) h
  rw [e] at h1
  have h2 : (-1 : Int32).toInt = -1 := by decide
  omega
/-- small payments of a bank that can go -/
def fsm (acc net flo bnd frm too amt wai : Nat → Int32) (small : Int32) (b : Nat) (q : Nat) : Bool := isq wai frm b q && (decide (¬ small < amt q) && decide (obs acc net flo bnd frm too amt wai q = 0))
def nxtQ (L : List Nat) (acc net flo bnd frm too amt wai : Nat → Int32) (small : Int32) (b : Nat) : Option Nat :=
  match atQ L (isq wai frm b) 0 with
  | none => none
  | some p => if obs acc net flo bnd frm too amt wai p = 0 then some p else L.find? (fsm acc net flo bnd frm too amt wai small b)
theorem fd_found {L : List Nat} {f : Nat → Bool} {i p : Nat} (hi : L[i]? = some p) (hf : f p = true) (ha : (L.take i).find? f = none) : L.find? f = some p := by
  obtain ⟨hl, hp⟩ := List.getElem?_eq_some_iff.mp hi
  have e : L = L.take i ++ p :: L.drop (i + 1) := by
    rw [← hp, List.getElem_cons_drop, List.take_append_drop]
  rw [e, List.find?_append, ha]
  simp [hf]
theorem fd_no {L : List Nat} {f : Nat → Bool} {i p : Nat} (hi : L[i]? = some p) (hf : ¬ f p = true) (ha : (L.take i).find? f = none) : (L.take (i + 1)).find? f = none := by
  rw [List.take_succ, hi, List.find?_append, ha]
  simp [hf]
theorem fd_end {L : List Nat} {f : Nat → Bool} {i : Nat} (hi : L.length ≤ i) (ha : (L.take i).find? f = none) : L.find? f = none := by
  rw [List.take_of_length_le hi] at ha
  exact ha
theorem fd_mem {L : List Nat} {f : Nat → Bool} {p : Nat} (h : L.find? f = some p) : p ∈ L ∧ f p = true := ⟨List.mem_of_find?_eq_some h, List.find?_some h⟩
theorem fsm_isq {acc net flo bnd frm too amt wai : Nat → Int32} {small : Int32} {b q : Nat} (h : fsm acc net flo bnd frm too amt wai small b q = true) : isq wai frm b q = true := by
  unfold fsm at h
  simp only [Bool.and_eq_true] at h
  exact h.1
theorem nxtQ_mem {pri acc net flo bnd frm too amt wai : Nat → Int32} {small : Int32} {n b p : Nat} (h : nxtQ (ordL pri n) acc net flo bnd frm too amt wai small b = some p) : p < n ∧ isq wai frm b p = true := by
  unfold nxtQ at h
  cases e : atQ (ordL pri n) (isq wai frm b) 0 with
  | none => rw [e] at h; cases h
  | some q =>
    rw [e] at h
    dsimp only at h
    split at h
    · cases h
      exact ⟨ordL_mem (atQ_mem e).1, (atQ_mem e).2⟩
    · exact ⟨ordL_mem (fd_mem h).1, fsm_isq (fd_mem h).2⟩
/-- a going through the banks: accounts, paid, waiting, how many went -/
abbrev T4 : Type := (Nat → Int32) × (Nat → Int32) × (Nat → Int32) × Nat
def passF (L : List Nat) (flo bnd frm too amt : Nat → Int32) (small : Int32) (acc net wai : Nat → Int32) : Nat → T4
  | 0 => (acc, net, wai, 0)
  | b + 1 => match nxtQ L (passF L flo bnd frm too amt small acc net wai b).1 (passF L flo bnd frm too amt small acc net wai b).2.1 flo bnd frm too amt (passF L flo bnd frm too amt small acc net wai b).2.2.1 small b with
    | none => passF L flo bnd frm too amt small acc net wai b
    | some p => (mvA (ix (frm p)) (ix (too p)) (amt p) (passF L flo bnd frm too amt small acc net wai b).1, mvN (ix (frm p)) (ix (too p)) (amt p) (passF L flo bnd frm too amt small acc net wai b).2.1, upd (passF L flo bnd frm too amt small acc net wai b).2.2.1 p 0, (passF L flo bnd frm too amt small acc net wai b).2.2.2 + 1)
end SP
