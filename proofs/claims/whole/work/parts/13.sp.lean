/-! what both sides compute: rows of numbers, queues, sets -/
section SP
def ix (x : Int32) : Nat := x.toNatClampNeg
theorem ix_nI {n : Nat} (h : n < 2 ^ 31) : ix (nI n) = n := nI_clamp h
def wf5 (n : Nat) (f : Nat → Int32) : Prop := ∀ p, p < n → f p = nI (ix (f p)) ∧ ix (f p) < 5
def wfB (f : Nat → Int32) : Prop := ∀ p, f p = 0 ∨ f p = 1
theorem z_mulc (c y : Nat) : nI c * nI y = nI (y * c) := by rw [Nat.mul_comm]; exact pk_mul c y
/-- x leaves f for t -/
def mvA (f t : Nat) (x : Int32) (g : Nat → Int32) : Nat → Int32 := upd (upd g f (g f - x)) t (upd g f (g f - x) t + x)
def mvN (f t : Nat) (x : Int32) (g : Nat → Int32) : Nat → Int32 := upd (upd g (f * 5 + t) (g (f * 5 + t) + x)) (t * 5 + f) (upd g (f * 5 + t) (g (f * 5 + t) + x) (t * 5 + f) - x)
def cntW (wai : Nat → Int32) : Nat → Nat
  | 0 => 0
  | n + 1 => cntW wai n + if wai n = 0 then 0 else 1
theorem cntW_le (wai : Nat → Int32) : ∀ n, cntW wai n ≤ n
  | 0 => Nat.le_refl 0
  | n + 1 => by have := cntW_le wai n; unfold cntW; split <;> omega
/-- why a payment doesn't go -/
def obs (acc net flo bnd frm too amt wai : Nat → Int32) (p : Nat) : Int32 := if wai p = 0 then 3 else if flo (ix (frm p)) ≤ acc (ix (frm p)) - amt p then (if net (ix (frm p) * 5 + ix (too p)) + amt p ≤ bnd (ix (frm p) * 5 + ix (too p)) then 0 else 2) else 1
def ordL (pri : Nat → Int32) (n : Nat) : List Nat := (List.range n).filter (fun p => decide (pri p = 2)) ++ ((List.range n).filter (fun p => decide (pri p = 1)) ++ (List.range n).filter (fun p => decide (pri p = 0)))
def isq (wai frm : Nat → Int32) (b : Nat) (p : Nat) : Bool := decide (wai p ≠ 0 ∧ ix (frm p) = b)
def oI : Option Nat → Int32
  | none => -1
  | some p => nI p
def atQ (L : List Nat) (f : Nat → Bool) (k : Nat) : Option Nat := (L.filter f)[k]?
def bypOK (byp pri : Nat → Int32) (n : Nat) : Prop := ∀ i, i < n → ∃ p, (ordL pri n)[i]? = some p ∧ byp i = nI p
def snd5 (acc flo net bnd : Nat → Int32) : Prop := (∀ b, b < 5 → flo b ≤ acc b) ∧ ∀ q, q < 25 → net q ≤ bnd q
def clrN (net : Nat → Int32) (i : Nat) : Nat → Int32 := fun k => if k < i then 0 else net k
theorem clrN_0 (net : Nat → Int32) : clrN net 0 = net := by funext k; simp [clrN]
theorem clrN_s (net : Nat → Int32) (i : Nat) : upd (clrN net i) i 0 = clrN net (i + 1) := by
  funext k
  unfold upd clrN
  by_cases h : k = i
  · subst h; simp
  · simp only [h, if_false]
    by_cases h2 : k < i
    · rw [if_pos h2, if_pos (by omega)]
    · rw [if_neg h2, if_neg (by omega)]
end SP
