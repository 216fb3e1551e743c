/-! what the reference's walks need -/
section SQ
def fl (pri : Nat → Int32) (v : Int32) (i : Nat) : List Nat := (List.range i).filter (fun p => decide (pri p = v))
theorem fl_0 (pri : Nat → Int32) (v : Int32) : fl pri v 0 = [] := rfl
theorem fl_y {pri : Nat → Int32} {v : Int32} {i : Nat} (h : pri i = v) : fl pri v (i + 1) = fl pri v i ++ [i] := by
  unfold fl; rw [List.range_succ, List.filter_append]; simp [h]
theorem fl_n {pri : Nat → Int32} {v : Int32} {i : Nat} (h : ¬ pri i = v) : fl pri v (i + 1) = fl pri v i := by
  unfold fl; rw [List.range_succ, List.filter_append]; simp [h]
theorem fl_pre (pri : Nat → Int32) (v : Int32) (i : Nat) : ∀ j, ∃ r, fl pri v (i + j) = fl pri v i ++ r
  | 0 => ⟨[], by simp⟩
  | j + 1 => by
    obtain ⟨r, hr⟩ := fl_pre pri v i j
    by_cases h : pri (i + j) = v
    · exact ⟨r ++ [i + j], by rw [← Nat.add_assoc, fl_y h, hr, List.append_assoc]⟩
    · exact ⟨r, by rw [← Nat.add_assoc, fl_n h, hr]⟩
theorem at_no1 {pri : Nat → Int32} {v : Int32} {A : List Nat} {f : Nat → Bool} {i : Nat} (hf : ¬ f i = true) : ((A ++ fl pri v (i + 1)).filter f).length = ((A ++ fl pri v i).filter f).length := by
  by_cases h : pri i = v
  · rw [fl_y h]; simp [hf]
  · rw [fl_n h]
theorem at_no2 {pri : Nat → Int32} {v : Int32} {A : List Nat} {f : Nat → Bool} {i : Nat} (h : ¬ pri i = v) : ((A ++ fl pri v (i + 1)).filter f).length = ((A ++ fl pri v i).filter f).length := by rw [fl_n h]
theorem at_y {pri : Nat → Int32} {v : Int32} {A : List Nat} {f : Nat → Bool} {i : Nat} (hf : f i = true) (h : pri i = v) : ((A ++ fl pri v (i + 1)).filter f).length = ((A ++ fl pri v i).filter f).length + 1 := by
  rw [fl_y h]; simp [hf]; omega
theorem at_split {L A : List Nat} {f : Nat → Bool} {p k : Nat} {r : List Nat} (e : L = A ++ p :: r) (hf : f p = true) (hk : k = (A.filter f).length) : atQ L f k = some p := by
  unfold atQ
  rw [e, List.filter_append, List.filter_cons, if_pos hf, hk, List.getElem?_append_right (Nat.le_refl _)]
  simp
theorem at_hit {pri : Nat → Int32} {v : Int32} {A B : List Nat} {f : Nat → Bool} {n i k : Nat} (hd : ordL pri n = (A ++ fl pri v n) ++ B) (hi : i < n) (hf : f i = true) (h : pri i = v) (hk : k = ((A ++ fl pri v i).filter f).length) : atQ (ordL pri n) f k = some i := by
  obtain ⟨r, hr⟩ := fl_pre pri v (i + 1) (n - (i + 1))
  rw [show i + 1 + (n - (i + 1)) = n by omega, fl_y h] at hr
  refine at_split (A := A ++ fl pri v i) (r := r ++ B) ?_ hf hk
  rw [hd, hr]
  simp
theorem ord2 (pri : Nat → Int32) (n : Nat) : ordL pri n = ([] ++ fl pri 2 n) ++ (fl pri 1 n ++ fl pri 0 n) := rfl
theorem ord1 (pri : Nat → Int32) (n : Nat) : ordL pri n = (fl pri 2 n ++ fl pri 1 n) ++ fl pri 0 n := (List.append_assoc _ _ _).symm
theorem ord0 (pri : Nat → Int32) (n : Nat) : ordL pri n = ((fl pri 2 n ++ fl pri 1 n) ++ fl pri 0 n) ++ [] := by rw [List.append_nil]; exact ord1 pri n
theorem at_miss {L : List Nat} {f : Nat → Bool} {k : Nat} (h : (L.filter f).length ≤ k) : atQ L f k = none := List.getElem?_eq_none h
/-- the moves of a row of payments, each times t -/
def gsk (frm too amt : Nat → Int32) (t : Int32) (O : Nat → Option Nat) (g h : Nat → Int32) : Nat → (Nat → Int32) × (Nat → Int32)
  | 0 => (g, h)
  | k + 1 => match O k with
    | none => gsk frm too amt t O g h k
    | some p => (mvA (ix (frm p)) (ix (too p)) (t * amt p) (gsk frm too amt t O g h k).1, mvN (ix (frm p)) (ix (too p)) (t * amt p) (gsk frm too amt t O g h k).2)
theorem gsk_none {frm too amt : Nat → Int32} {t : Int32} {O : Nat → Option Nat} {g h : Nat → Int32} {k : Nat} (e : O k = none) : gsk frm too amt t O g h (k + 1) = gsk frm too amt t O g h k := by rw [gsk, e]
theorem gsk_some {frm too amt : Nat → Int32} {t : Int32} {O : Nat → Option Nat} {g h : Nat → Int32} {k p : Nat} (e : O k = some p) : gsk frm too amt t O g h (k + 1) = (mvA (ix (frm p)) (ix (too p)) (t * amt p) (gsk frm too amt t O g h k).1, mvN (ix (frm p)) (ix (too p)) (t * amt p) (gsk frm too amt t O g h k).2) := by rw [gsk, e]
def eA (f t : Nat) (x : Int32) (y : Nat) : Int32 := (if y = f then -x else 0) + (if y = t then x else 0)
def eN (f t : Nat) (x : Int32) (y : Nat) : Int32 := (if y = f * 5 + t then x else 0) + (if y = t * 5 + f then -x else 0)
theorem mvA_e (f t : Nat) (x : Int32) (g : Nat → Int32) (y : Nat) : mvA f t x g y = g y + eA f t x y := by
  unfold mvA upd eA
  by_cases h1 : y = t
  · subst h1
    by_cases h2 : y = f
    · subst h2; simp [Int32.sub_eq_add_neg, Int32.add_assoc]
    · simp [h2]
  · by_cases h2 : y = f
    · subst h2; simp [h1, Int32.sub_eq_add_neg]
    · simp [h1, h2]
theorem mvN_e (f t : Nat) (x : Int32) (g : Nat → Int32) (y : Nat) : mvN f t x g y = g y + eN f t x y := by
  unfold mvN upd eN
  generalize f * 5 + t = a
  generalize t * 5 + f = b
  by_cases h1 : y = b
  · subst h1
    by_cases h2 : y = a
    · subst h2; simp [Int32.sub_eq_add_neg, Int32.add_assoc]
    · simp [h2, Int32.sub_eq_add_neg]
  · by_cases h2 : y = a
    · subst h2; simp [h1]
    · simp [h1, h2]
theorem eA_mul (f t : Nat) (s x : Int32) (y : Nat) : eA f t (s * x) y = s * eA f t x y := by
  unfold eA
  by_cases h1 : y = f
  · subst h1
    by_cases h2 : y = t
    · subst h2; simp [Int32.mul_add, Int32.mul_neg]
    · simp [h2, Int32.mul_add, Int32.mul_neg]
  · by_cases h2 : y = t
    · subst h2; simp [h1, Int32.mul_add, Int32.mul_neg]
    · simp [h1, h2]
theorem eN_mul (f t : Nat) (s x : Int32) (y : Nat) : eN f t (s * x) y = s * eN f t x y := by
  unfold eN
  generalize f * 5 + t = a
  generalize t * 5 + f = b
  by_cases h1 : y = a
  · subst h1
    by_cases h2 : y = b
    · subst h2; simp [Int32.mul_add, Int32.mul_neg]
    · simp [h2, Int32.mul_add, Int32.mul_neg]
  · by_cases h2 : y = b
    · subst h2; simp [h1, Int32.mul_add, Int32.mul_neg]
    · simp [h1, h2]
def sA (frm too amt : Nat → Int32) (O : Nat → Option Nat) (y : Nat) : Nat → Int32
  | 0 => 0
  | k + 1 => match O k with
    | none => sA frm too amt O y k
    | some p => sA frm too amt O y k + eA (ix (frm p)) (ix (too p)) (amt p) y
def sN (frm too amt : Nat → Int32) (O : Nat → Option Nat) (y : Nat) : Nat → Int32
  | 0 => 0
  | k + 1 => match O k with
    | none => sN frm too amt O y k
    | some p => sN frm too amt O y k + eN (ix (frm p)) (ix (too p)) (amt p) y
theorem gsk_1 (frm too amt : Nat → Int32) (t : Int32) (O : Nat → Option Nat) (g h : Nat → Int32) (y : Nat) : ∀ k, (gsk frm too amt t O g h k).1 y = g y + t * sA frm too amt O y k
  | 0 => by simp [gsk, sA]
  | k + 1 => by
    have ih := gsk_1 frm too amt t O g h y k
    cases e : O k with
    | none => rw [gsk_none e, ih]; simp only [sA, e]
    | some p =>
      rw [gsk_some e]
      show mvA _ _ _ _ y = _
      rw [mvA_e, ih, eA_mul]
      simp only [sA, e, Int32.mul_add, Int32.add_assoc]
theorem gsk_2 (frm too amt : Nat → Int32) (t : Int32) (O : Nat → Option Nat) (g h : Nat → Int32) (y : Nat) : ∀ k, (gsk frm too amt t O g h k).2 y = h y + t * sN frm too amt O y k
  | 0 => by simp [gsk, sN]
  | k + 1 => by
    have ih := gsk_2 frm too amt t O g h y k
    cases e : O k with
    | none => rw [gsk_none e, ih]; simp only [sN, e]
    | some p =>
      rw [gsk_some e]
      show mvN _ _ _ _ y = _
      rw [mvN_e, ih, eN_mul]
      simp only [sN, e, Int32.mul_add, Int32.add_assoc]
theorem back0 (a s : Int32) : a + 1 * s + (-1) * s = a := by
  rw [Int32.one_mul, Int32.neg_mul, Int32.one_mul, Int32.add_assoc, ← Int32.sub_eq_add_neg s s, Int32.sub_self, Int32.add_zero]
theorem gsk_b1 (frm too amt : Nat → Int32) (O : Nat → Option Nat) (g h : Nat → Int32) (k : Nat) : (gsk frm too amt (-1) O (gsk frm too amt 1 O g h k).1 (gsk frm too amt 1 O g h k).2 k).1 = g := by
  funext y; rw [gsk_1, gsk_1, back0]
theorem gsk_b2 (frm too amt : Nat → Int32) (O : Nat → Option Nat) (g h : Nat → Int32) (k : Nat) : (gsk frm too amt (-1) O (gsk frm too amt 1 O g h k).1 (gsk frm too amt 1 O g h k).2 k).2 = h := by
  funext y; rw [gsk_2, gsk_2, back0]
/-- the members of a set -/
def inS (F : Nat → Option Nat) (S : Nat) (k : Nat) : Option Nat := if S.testBit k = true then F k else none
theorem gs_go {frm too amt : Nat → Int32} {F : Nat → Option Nat} {S : Nat} {g h : Nat → Int32} : ∀ {c : Nat}, (∀ k, k < c → S.testBit k = true → ¬ F k = none) → goS frm too amt F S g h c = some (gsk frm too amt 1 (inS F S) g h c)
  | 0, _ => rfl
  | k + 1, hall => by
    have ih := gs_go (frm := frm) (too := too) (amt := amt) (g := g) (h := h) (fun j hj => hall j (Nat.lt_succ_of_lt hj))
    by_cases hb : S.testBit k = true
    · cases e : F k with
      | none => exact absurd e (hall k (Nat.lt_succ_self k) hb)
      | some p =>
        rw [gsk_some (p := p) (show inS F S k = some p by unfold inS; rw [if_pos hb, e])]
        simp only [goS, ih, hb, if_true, e, Int32.one_mul]
    · rw [gsk_none (show inS F S k = none by unfold inS; rw [if_neg hb])]
      simp only [goS, ih, hb]
      rfl
theorem okS_all {frm too amt flo bnd acc net : Nat → Int32} {F : Nat → Option Nat} {S c : Nat} (hall : ∀ k, k < c → S.testBit k = true → ¬ F k = none) : okS frm too amt flo bnd F c acc net S = sndB (gsk frm too amt 1 (inS F S) acc net c).1 flo (gsk frm too amt 1 (inS F S) acc net c).2 bnd := by
  unfold okS; rw [gs_go hall]
theorem okS_miss {frm too amt flo bnd acc net : Nat → Int32} {F : Nat → Option Nat} {S c : Nat} (h : ¬ ∀ k, k < c → S.testBit k = true → ¬ F k = none) : ¬ okS frm too amt flo bnd F c acc net S = true := by
  intro hok
  refine h (fun k hk hb hF => ?_)
  have e := goS_none (goS_bit (frm := frm) (too := too) (amt := amt) (g := acc) (h := net) hb hF) (c - (k + 1))
  rw [show k + 1 + (c - (k + 1)) = c by omega] at e
  rw [okS_e e] at hok
  cases hok
def frsF (F : Nat → Option Nat) (S : Nat) (g : Nat → Int32) (i : Nat) : Nat → Int32 := fun k => if k < i then oI (inS F S k) else g k
theorem frsF_0 (F : Nat → Option Nat) (S : Nat) (g : Nat → Int32) : frsF F S g 0 = g := by funext k; simp [frsF]
theorem frsF_s {F : Nat → Option Nat} {S : Nat} {g : Nat → Int32} {i : Nat} {x : Int32} (h : oI (inS F S i) = x) : upd (frsF F S g i) i x = frsF F S g (i + 1) := by
  subst h
  funext k
  unfold upd frsF
  by_cases e : k = i
  · subst e; simp
  · simp only [e, if_false]
    by_cases h2 : k < i
    · simp [h2, show k < i + 1 by omega]
    · simp [h2, show ¬ k < i + 1 by omega]
theorem frsF_y {F : Nat → Option Nat} {S : Nat} {g : Nat → Int32} {i : Nat} (h : S.testBit i = true) : upd (frsF F S g i) i (oI (F i)) = frsF F S g (i + 1) := frsF_s (by unfold inS; rw [if_pos h])
theorem frsF_n {F : Nat → Option Nat} {S : Nat} {g : Nat → Int32} {i : Nat} (h : ¬ S.testBit i = true) : upd (frsF F S g i) i (-1) = frsF F S g (i + 1) := frsF_s (by unfold inS; rw [if_neg h]; rfl)
theorem frsF_at {F : Nat → Option Nat} {S : Nat} {g : Nat → Int32} {i k : Nat} (h : k < i) : frsF F S g i k = oI (inS F S k) := by simp [frsF, h]
theorem inS_lt {pri wai frm : Nat → Int32} {n S k p : Nat} (h : inS (fcnQ (ordL pri n) wai frm) S k = some p) : p < n := by
  unfold inS at h
  split at h
  · exact fcnQ_lt k p h
  · cases h
theorem snB_none {frm too amt : Nat → Int32} {F : Nat → Option Nat} {S : Nat} {acc net wai : Nat → Int32} {k : Nat} (h : inS F S k = none) : snB frm too amt F S acc net wai (k + 1) = snB frm too amt F S acc net wai k := by
  unfold inS at h
  by_cases hb : S.testBit k = true
  · rw [if_pos hb] at h
    simp only [snB, hb, if_true, h]
  · simp [snB, hb]
theorem snB_some {frm too amt : Nat → Int32} {F : Nat → Option Nat} {S : Nat} {acc net wai : Nat → Int32} {k p : Nat} (h : inS F S k = some p) : snB frm too amt F S acc net wai (k + 1) = (mvA (ix (frm p)) (ix (too p)) (amt p) (snB frm too amt F S acc net wai k).1, mvN (ix (frm p)) (ix (too p)) (amt p) (snB frm too amt F S acc net wai k).2.1, upd (snB frm too amt F S acc net wai k).2.2 p 0) := by
  unfold inS at h
  split at h
  · rename_i hb
    show (if S.testBit k = true then _ else _) = _
    rw [if_pos hb, h]
  · cases h
def pcU (S : Nat) : Nat → Nat
  | 0 => 0
  | b + 1 => pcU S b + (S.testBit b).toNat
theorem pcU_5 (S : Nat) : pcU S 5 = pc5 S := rfl
theorem pcU_y {S b : Nat} (h : S.testBit b = true) : pcU S (b + 1) = pcU S b + 1 := by rw [pcU, h]; rfl
theorem ts_f {b : Bool} (h : ¬ b = true) : b = false := by cases b with
  | true => exact absurd rfl h
  | false => rfl
theorem pcU_n {S b : Nat} (h : ¬ S.testBit b = true) : pcU S (b + 1) = pcU S b := by rw [pcU, ts_f h]; rfl
theorem pcU_le (S : Nat) : ∀ b, pcU S b ≤ b
  | 0 => Nat.le_refl 0
  | b + 1 => by
    have := pcU_le S b
    unfold pcU
    cases S.testBit b <;> simp <;> omega
/-- sound, 25 places one behind another -/
theorem snd_y {acc flo net bnd : Nat → Int32} {b9 i : Nat} (h0 : ¬ b9 = 0) (h1 : b9 ≤ 1) (hb : b9 = 1 ↔ ∀ j, j < i → flo (j / 5) ≤ acc (j / 5) ∧ net j ≤ bnd j) (c1 : ¬ acc (i / 5) < flo (i / 5)) (c2 : ¬ bnd i < net i) : 1 = 1 ↔ ∀ j, j < i + 1 → flo (j / 5) ≤ acc (j / 5) ∧ net j ≤ bnd j := by
  refine ⟨fun _ => ?_, fun _ => rfl⟩
  exact lt_s (hb.mp (by omega)) ⟨Int32.not_lt.mp c1, Int32.not_lt.mp c2⟩
theorem snd_n0 {acc flo net bnd : Nat → Int32} {b9 i : Nat} (h0 : b9 = 0) (hb : b9 = 1 ↔ ∀ j, j < i → flo (j / 5) ≤ acc (j / 5) ∧ net j ≤ bnd j) : 0 = 1 ↔ ∀ j, j < i + 1 → flo (j / 5) ≤ acc (j / 5) ∧ net j ≤ bnd j := by
  refine ⟨fun h => absurd h (by decide), fun h => ?_⟩
  have := hb.mpr (fun j hj => h j (by omega))
  omega
theorem snd_n1 {acc flo net bnd : Nat → Int32} {i : Nat} (c1 : acc (i / 5) < flo (i / 5)) : 0 = 1 ↔ ∀ j, j < i + 1 → flo (j / 5) ≤ acc (j / 5) ∧ net j ≤ bnd j :=
  ⟨fun h => absurd h (by decide), fun h => absurd (h i (Nat.lt_succ_self i)).1 (Int32.not_le.mpr c1)⟩
theorem snd_n2 {acc flo net bnd : Nat → Int32} {i : Nat} (c1 : bnd i < net i) : 0 = 1 ↔ ∀ j, j < i + 1 → flo (j / 5) ≤ acc (j / 5) ∧ net j ≤ bnd j :=
  ⟨fun h => absurd h (by decide), fun h => absurd (h i (Nat.lt_succ_self i)).2 (Int32.not_le.mpr c1)⟩
theorem snd_ret {acc flo net bnd : Nat → Int32} {b9 : Nat} (h1 : b9 ≤ 1) (hb : b9 = 1 ↔ ∀ j, j < 25 → flo (j / 5) ≤ acc (j / 5) ∧ net j ≤ bnd j) : nI b9 = if sndB acc flo net bnd = true then 1 else 0 := by
  by_cases h : sndB acc flo net bnd = true
  · rw [if_pos h]
    have h2 := sndB_iff.mp h
    rw [hb.mpr (fun j hj => ⟨h2.1 (j / 5) (by omega), h2.2 j hj⟩)]
    rfl
  · rw [if_neg h]
    have h3 : ¬ b9 = 1 := fun e => by
      have h4 := hb.mp e
      exact h (sndB_iff.mpr ⟨fun b hb => by have := (h4 (b * 5) (by omega)).1; rw [Nat.mul_div_cancel b (by decide)] at this; exact this, fun q hq => (h4 q hq).2⟩)
    rw [show b9 = 0 by omega]
    rfl
theorem z_b01 {b9 : Nat} (h : b9 ≤ 1) : nI b9 = 0 ∨ nI b9 = 1 := by
  rcases (show b9 = 0 ∨ b9 = 1 by omega) with e | e <;> subst e
  · exact Or.inl rfl
  · exact Or.inr rfl
def smf (acc net flo bnd frm too amt wai : Nat → Int32) (small : Int32) (q : Nat) : Bool := decide (¬ small < amt q) && decide (obs acc net flo bnd frm too amt wai q = 0)
theorem ff_find (L : List Nat) (acc net flo bnd frm too amt wai : Nat → Int32) (small : Int32) (b : Nat) : (L.filter (isq wai frm b)).find? (smf acc net flo bnd frm too amt wai small) = L.find? (fsm acc net flo bnd frm too amt wai small b) := by
  induction L with
  | nil => rfl
  | cons p r ih =>
    by_cases h : isq wai frm b p = true
    · rw [List.filter_cons, if_pos h, List.find?_cons, List.find?_cons, ih]
      have e : fsm acc net flo bnd frm too amt wai small b p = smf acc net flo bnd frm too amt wai small p := by unfold fsm smf; rw [h, Bool.true_and]
      rw [e]
    · rw [List.filter_cons, if_neg h, List.find?_cons, ih]
      have e : fsm acc net flo bnd frm too amt wai small b p = false := by unfold fsm; rw [ts_f h, Bool.false_and]
      rw [e]
/-- waiting ones, and one fewer -/
theorem cntW_upd {w : Nat → Int32} {p : Nat} (hw : ¬ w p = 0) : ∀ {n : Nat}, p < n → cntW (upd w p 0) n + 1 = cntW w n
  | 0, h => absurd h (Nat.not_lt_zero p)
  | n + 1, h => by
    have hle : ∀ m, m ≤ p → cntW (upd w p 0) m = cntW w m := by
      intro m
      induction m with
      | zero => intro _; rfl
      | succ k ih =>
        intro hk
        rw [cntW, cntW, ih (by omega), show upd w p 0 k = w k from upd_ne (by omega) rfl]
    by_cases e : p = n
    · subst e
      rw [cntW, cntW, hle p (Nat.le_refl p), show upd w p 0 p = 0 by simp [upd], if_pos rfl, if_neg hw]
    · have ih := cntW_upd hw (n := n) (by omega)
      rw [cntW, cntW, ← ih, show upd w p 0 n = w n from upd_ne (fun q => e q.symm) rfl]
      omega
theorem passF_cnt {pri flo bnd frm too amt : Nat → Int32} {small : Int32} {acc net wai : Nat → Int32} {n : Nat} : ∀ b, cntW (passF (ordL pri n) flo bnd frm too amt small acc net wai b).2.2.1 n + (passF (ordL pri n) flo bnd frm too amt small acc net wai b).2.2.2 = cntW wai n
  | 0 => rfl
  | b + 1 => by
    have ih := passF_cnt (pri := pri) (flo := flo) (bnd := bnd) (frm := frm) (too := too) (amt := amt) (small := small) (acc := acc) (net := net) (wai := wai) (n := n) b
    unfold passF
    split
    · exact ih
    · rename_i p hp
      obtain ⟨h1, h2⟩ := nxtQ_mem hp
      unfold isq at h2
      have h3 := (of_decide_eq_true h2).1
      have h4 := cntW_upd h3 h1
      dsimp only
      omega
theorem snB_keep {pri frm too amt wai0 : Nat → Int32} {S n : Nat} {acc net : Nat → Int32} : ∀ (k p : Nat), k ≤ ix (frm p) → (snB frm too amt (fcnQ (ordL pri n) wai0 frm) S acc net wai0 k).2.2 p = wai0 p
  | 0, p, _ => rfl
  | k + 1, p, h => by
    have ih := snB_keep (pri := pri) (frm := frm) (too := too) (amt := amt) (S := S) (n := n) (acc := acc) (net := net) (wai0 := wai0) k p (by omega)
    cases e : inS (fcnQ (ordL pri n) wai0 frm) S k with
    | none => rw [snB_none e]; exact ih
    | some q =>
      rw [snB_some e]
      have hq : ix (frm q) = k := by
        unfold inS at e
        split at e
        · have := (atQ_mem e).2
          unfold isq at this
          exact (of_decide_eq_true this).2
        · cases e
      show upd _ q 0 p = _
      unfold upd
      rw [if_neg (fun r => by rw [r, hq] at h; omega)]
      exact ih
theorem snB_cnt {pri frm too amt wai : Nat → Int32} {S n : Nat} {acc net : Nat → Int32} : ∀ {k : Nat}, (∀ j, j < k → S.testBit j = true → ¬ fcnQ (ordL pri n) wai frm j = none) → cntW (snB frm too amt (fcnQ (ordL pri n) wai frm) S acc net wai k).2.2 n + pcU S k = cntW wai n
  | 0, _ => rfl
  | k + 1, hall => by
    have ih := snB_cnt (too := too) (amt := amt) (acc := acc) (net := net) (k := k) (fun j hj => hall j (by omega))
    by_cases hb : S.testBit k = true
    · cases e : fcnQ (ordL pri n) wai frm k with
      | none => exact absurd e (hall k (Nat.lt_succ_self k) hb)
      | some p =>
        rw [snB_some (p := p) (show inS _ S k = some p by unfold inS; rw [if_pos hb, e]), pcU_y hb]
        have h1 := fcnQ_lt k p e
        have h2 := (atQ_mem e).2
        unfold isq at h2
        obtain ⟨h3, h4⟩ := of_decide_eq_true h2
        have h5 : ¬ (snB frm too amt (fcnQ (ordL pri n) wai frm) S acc net wai k).2.2 p = 0 := by
          rw [snB_keep k p (by omega)]; exact h3
        have h6 := cntW_upd h5 h1
        dsimp only
        omega
    · rw [snB_none (show inS _ S k = none by unfold inS; rw [if_neg hb]), pcU_n hb]
      exact ih
theorem togF_cnt {pri flo bnd frm too amt acc net wai : Nat → Int32} {n : Nat} : cntW (togF (ordL pri n) flo bnd frm too amt acc net wai).2.2.1 n + (togF (ordL pri n) flo bnd frm too amt acc net wai).2.2.2 = cntW wai n := by
  show cntW (snB _ _ _ _ _ _ _ _ 5).2.2 n + pc5 _ = _
  rw [← pcU_5]
  exact snB_cnt (fun j hj hb => best_some hj hb)
theorem rndF_cnt {pri flo bnd frm too amt : Nat → Int32} {small : Int32} {acc net wai : Nat → Int32} {n : Nat} : cntW (rndF (ordL pri n) flo bnd frm too amt small acc net wai).2.2.1 n + (rndF (ordL pri n) flo bnd frm too amt small acc net wai).2.2.2 = cntW wai n := by
  have h1 := passF_cnt (pri := pri) (flo := flo) (bnd := bnd) (frm := frm) (too := too) (amt := amt) (small := small) (acc := acc) (net := net) (wai := wai) (n := n) 5
  unfold rndF
  split
  · rw [togF_cnt]; omega
  · exact h1
theorem hwA {P : Nat → Prop} {w9 j : Nat} (h0 : w9 = 0) (hw : w9 = 1 ↔ ∀ k, k < j → P k) : 0 = 1 ↔ ∀ k, k < j + 1 → P k := by
  refine ⟨fun h => absurd h (by decide), fun h => ?_⟩
  have := hw.mpr (fun k hk => h k (by omega))
  omega
theorem hwB {P : Nat → Prop} {w9 j : Nat} (h0 : ¬ w9 = 0) (h1 : w9 ≤ 1) (hw : w9 = 1 ↔ ∀ k, k < j → P k) (hP : P j) : 1 = 1 ↔ ∀ k, k < j + 1 → P k :=
  ⟨fun _ => lt_s (hw.mp (by omega)) hP, fun _ => rfl⟩
theorem hwC {P : Nat → Prop} {j : Nat} (hP : ¬ P j) : 0 = 1 ↔ ∀ k, k < j + 1 → P k := ⟨fun h => absurd h (by decide), fun h => absurd (h j (Nat.lt_succ_self j)) hP⟩
section
variable {L : List Nat} {flo bnd frm too amt : Nat → Int32} {small : Int32} {acc net wai : Nat → Int32} {g : Int32} {k : Nat} {R : (Nat → Int32) × (Nat → Int32) × (Nat → Int32) × Int32}
theorem run_s1 (hR : runF L flo bnd frm too amt small (k + 1) acc net wai g = R) (h : ¬ (passF L flo bnd frm too amt small acc net wai 5).2.2.2 = 0) :
    runF L flo bnd frm too amt small k (passF L flo bnd frm too amt small acc net wai 5).1 (passF L flo bnd frm too amt small acc net wai 5).2.1 (passF L flo bnd frm too amt small acc net wai 5).2.2.1 (g + nI (passF L flo bnd frm too amt small acc net wai 5).2.2.2) = R := by
  rw [← hR, runF]
  simp only [rndF, h, if_false]
theorem run_s2 (hR : runF L flo bnd frm too amt small (k + 1) acc net wai g = R) (h : (passF L flo bnd frm too amt small acc net wai 5).2.2.2 = 0)
    (h2 : ¬ (togF L flo bnd frm too amt (passF L flo bnd frm too amt small acc net wai 5).1 (passF L flo bnd frm too amt small acc net wai 5).2.1 (passF L flo bnd frm too amt small acc net wai 5).2.2.1).2.2.2 = 0) :
    runF L flo bnd frm too amt small k (togF L flo bnd frm too amt (passF L flo bnd frm too amt small acc net wai 5).1 (passF L flo bnd frm too amt small acc net wai 5).2.1 (passF L flo bnd frm too amt small acc net wai 5).2.2.1).1 (togF L flo bnd frm too amt (passF L flo bnd frm too amt small acc net wai 5).1 (passF L flo bnd frm too amt small acc net wai 5).2.1 (passF L flo bnd frm too amt small acc net wai 5).2.2.1).2.1 (togF L flo bnd frm too amt (passF L flo bnd frm too amt small acc net wai 5).1 (passF L flo bnd frm too amt small acc net wai 5).2.1 (passF L flo bnd frm too amt small acc net wai 5).2.2.1).2.2.1 (g + nI ((passF L flo bnd frm too amt small acc net wai 5).2.2.2 + (togF L flo bnd frm too amt (passF L flo bnd frm too amt small acc net wai 5).1 (passF L flo bnd frm too amt small acc net wai 5).2.1 (passF L flo bnd frm too amt small acc net wai 5).2.2.1).2.2.2)) = R := by
  rw [← hR, runF, h, Nat.zero_add]
  simp only [rndF, h, if_true, h2, if_false]
theorem run_e2 (hR : runF L flo bnd frm too amt small (k + 1) acc net wai g = R) (h : (passF L flo bnd frm too amt small acc net wai 5).2.2.2 = 0)
    (h2 : (togF L flo bnd frm too amt (passF L flo bnd frm too amt small acc net wai 5).1 (passF L flo bnd frm too amt small acc net wai 5).2.1 (passF L flo bnd frm too amt small acc net wai 5).2.2.1).2.2.2 = 0) :
    R = ((togF L flo bnd frm too amt (passF L flo bnd frm too amt small acc net wai 5).1 (passF L flo bnd frm too amt small acc net wai 5).2.1 (passF L flo bnd frm too amt small acc net wai 5).2.2.1).1, (togF L flo bnd frm too amt (passF L flo bnd frm too amt small acc net wai 5).1 (passF L flo bnd frm too amt small acc net wai 5).2.1 (passF L flo bnd frm too amt small acc net wai 5).2.2.1).2.1, (togF L flo bnd frm too amt (passF L flo bnd frm too amt small acc net wai 5).1 (passF L flo bnd frm too amt small acc net wai 5).2.1 (passF L flo bnd frm too amt small acc net wai 5).2.2.1).2.2.1, g + nI ((passF L flo bnd frm too amt small acc net wai 5).2.2.2 + (togF L flo bnd frm too amt (passF L flo bnd frm too amt small acc net wai 5).1 (passF L flo bnd frm too amt small acc net wai 5).2.1 (passF L flo bnd frm too amt small acc net wai 5).2.2.1).2.2.2)) := by
  rw [← hR, runF, h, h2, show nI (0 + 0) = 0 from rfl, z_add0]
  simp only [rndF, h, if_true, h2]
end
theorem wl_at {wai : Nat → Int32} {n i : Nat} (hi : i < n) (hw : ¬ wai i = 0) : (wlL wai n)[(wlL wai i).length]? = some i := by
  obtain ⟨r, hr⟩ := wlL_pre wai (i + 1) (n - (i + 1))
  rw [show i + 1 + (n - (i + 1)) = n by omega, wlL_y hw] at hr
  rw [hr, List.append_assoc, List.getElem?_append_right (Nat.le_refl _), Nat.sub_self]
  rfl
theorem wl_lt {wai : Nat → Int32} {n i : Nat} (hi : i < n) (hw : ¬ wai i = 0) : (wlL wai i).length < (wlL wai n).length := (List.getElem?_eq_some_iff.mp (wl_at hi hw)).1
theorem wl_all {wai : Nat → Int32} {n S : Nat} : ∀ k, k < (wlL wai n).length → S.testBit k = true → ¬ (fun k => (wlL wai n)[k]?) k = none := by
  intro k hk _ h
  have := List.getElem?_eq_none_iff.mp h
  omega
theorem any_ret {ok : Nat → Bool} {N c9 s9 : Nat} (h1 : c9 ≤ 1) (hno : c9 = 0 → ∀ S, S < s9 → 1 ≤ S → ok S = false) (hyes : c9 = 1 → ∃ S, 1 ≤ S ∧ S < N ∧ ok S = true) (hend : c9 = 0 → N ≤ s9) : nI c9 = if anyB ok N = true then 1 else 0 := by
  rcases (show c9 = 0 ∨ c9 = 1 by omega) with e | e
  · rw [if_neg (by rw [anyB_n (fun S h2 h3 => hno e S (by have := hend e; omega) h3)]; decide), e]; rfl
  · obtain ⟨S, g1, g2, g3⟩ := hyes e
    rw [if_pos (anyB_y g1 g2 g3), e]; rfl
theorem dropW_at {frm too wai : Nat → Int32} {b i : Nat} : dropW frm too b i wai i = wai i := by unfold dropW; rw [if_neg (by omega)]
theorem dropW_k {frm too wai : Nat → Int32} {b i : Nat} {x : Int32} (h : x = if ix (frm i) = b ∨ ix (too i) = b then 0 else wai i) : upd (dropW frm too b i wai) i x = dropW frm too b (i + 1) wai := by
  subst h
  funext k
  unfold upd dropW
  by_cases e : k = i
  · subst e; simp
  · simp only [e, if_false]
    by_cases h2 : k < i
    · simp [h2, show k < i + 1 by omega]
    · simp [h2, show ¬ k < i + 1 by omega]
theorem dropW_wfB {frm too wai : Nat → Int32} {b i : Nat} (h : wfB wai) : wfB (dropW frm too b i wai) := by
  intro p
  unfold dropW
  split
  · exact Or.inl rfl
  · exact h p
theorem min_a {d b : Int32} (h : d ≤ b) : (if d < b then d else b) = d := by
  split
  · rfl
  · rename_i q; exact Int32.le_antisymm (Int32.not_lt.mp q) h
theorem min_b {d b : Int32} (h : ¬ d ≤ b) : (if d < b then d else b) = b := if_neg (fun q => h (Int32.le_of_lt q))
section
variable {flo frm too ldr bor due plg : Nat → Int32} {price : Int32} {mk : Nat}
theorem mnS_e (r : M6) (l : Nat) : mnS flo frm too ldr bor due plg price mk r l = ((mnS flo frm too ldr bor due plg price mk (r.1, r.2.1, r.2.2.1, r.2.2.2.1, r.2.2.2.2.1, 0) l).1, (mnS flo frm too ldr bor due plg price mk (r.1, r.2.1, r.2.2.1, r.2.2.2.1, r.2.2.2.2.1, 0) l).2.1, (mnS flo frm too ldr bor due plg price mk (r.1, r.2.1, r.2.2.1, r.2.2.2.1, r.2.2.2.2.1, 0) l).2.2.1, (mnS flo frm too ldr bor due plg price mk (r.1, r.2.1, r.2.2.1, r.2.2.2.1, r.2.2.2.2.1, 0) l).2.2.2.1, (mnS flo frm too ldr bor due plg price mk (r.1, r.2.1, r.2.2.1, r.2.2.2.1, r.2.2.2.2.1, 0) l).2.2.2.2.1, r.2.2.2.2.2 + (mnS flo frm too ldr bor due plg price mk (r.1, r.2.1, r.2.2.1, r.2.2.2.1, r.2.2.2.2.1, 0) l).2.2.2.2.2) := by
  by_cases h : r.2.2.1 (ix (bor l)) = 0 ∧ flo (ix (bor l)) ≤ r.1 (ix (bor l)) - due l
  · rw [mnS_r h, mnS_r (r := (r.1, r.2.1, r.2.2.1, r.2.2.2.1, r.2.2.2.2.1, 0)) h]; rfl
  · by_cases h2 : r.2.2.1 (ix (bor l)) = 0
    · rw [mnS_c h h2, mnS_c (r := (r.1, r.2.1, r.2.2.1, r.2.2.2.1, r.2.2.2.2.1, 0)) h h2]
    · rw [mnS_o h h2, mnS_o (r := (r.1, r.2.1, r.2.2.1, r.2.2.2.1, r.2.2.2.2.1, 0)) h h2]; rfl
theorem mnS_wfB {r : M6} {l : Nat} (h : wfB r.2.2.2.1) : wfB (mnS flo frm too ldr bor due plg price mk r l).2.2.2.1 := by
  by_cases h1 : r.2.2.1 (ix (bor l)) = 0 ∧ flo (ix (bor l)) ≤ r.1 (ix (bor l)) - due l
  · rw [mnS_r h1]; exact h
  · by_cases h2 : r.2.2.1 (ix (bor l)) = 0
    · rw [mnS_c h1 h2]; exact dropW_wfB h
    · rw [mnS_o h1 h2]; exact h
theorem mnF_wfB {r : M6} {l0 : Nat} (h : wfB r.2.2.2.1) : ∀ k, wfB (mnF flo frm too ldr bor due plg price mk r l0 k).2.2.2.1
  | 0 => h
  | k + 1 => mnS_wfB (mnF_wfB h k)
end
end SQ
