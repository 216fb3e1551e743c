
theorem zMi.post {T : Type} {sa : Nat → Nat} {D : va_G} {cl : List vw_C} {tys : List (ClassId × FieldType)} {l : Launch} {y : MethodName} {wsy : List Cond} {rm : Room} {av : List Value} {wc : va_W} {post post1 : Int32 → T → Prop} {w1 : T → va_W} {mc ms : Nat} (h : zMi sa D cl tys l y wsy rm av wc post w1 mc ms) (hp : ∀ r u, post r u → post1 r u) : zMi sa D cl tys l y wsy rm av wc post1 w1 mc ms := by
  intro sz p e ha hc hk s m args below hf happ hP hK
  obtain ⟨n, o, h1, h2, h3, ⟨⟨r, u, e1, e2, e3⟩, e4⟩, e5⟩ := h sz p e ha hc hk s m args below hf happ hP hK
  exact ⟨n, o, h1, h2, h3, ⟨⟨r, u, e1, hp r u e2, e3⟩, e4⟩, e5⟩
theorem f_clr : clrN (fun _ => 0) 25 = fun _ => 0 := by
  funext k
  simp [clrN]
theorem f_bit : ∀ S, S < 32 → 1 ≤ S → ∃ k, k < 5 ∧ S.testBit k = true := by decide
theorem f_ok {frm too amt flo bnd acc net : Nat → Int32} {cn : Nat → Option Nat} (hc : ∀ k, cn k = none) {S : Nat} (h1 : S < 32) (h2 : 1 ≤ S) : okS frm too amt flo bnd cn 5 acc net S = false := by
  obtain ⟨k, hk, hb⟩ := f_bit S h1 h2
  have e := goS_none (goS_bit (frm := frm) (too := too) (amt := amt) (g := acc) (h := net) hb (hc k)) (4 - k)
  rw [show k + 1 + (4 - k) = 5 by omega] at e
  exact okS_e e
theorem f_best {ok : Nat → Bool} : ∀ n, (∀ S, S < n → 1 ≤ S → ok S = false) → bestS ok n = 0
  | 0, _ => rfl
  | n + 1, h => by
    have ih := f_best n (fun S h1 h2 => h S (by omega) h2)
    unfold bestS
    rw [ih]
    by_cases h0 : n = 0
    · subst h0; simp
    · rw [if_neg (fun q => by have := h n (Nat.lt_succ_self n) (by omega); rw [this] at q; exact absurd q.2 (by decide))]
theorem f_tog (flo bnd frm too amt acc net wai : Nat → Int32) : togF [] flo bnd frm too amt acc net wai = (acc, net, wai, 0) := by
  have hb : bestQ [] flo bnd frm too amt acc net wai = 0 := f_best 32 (fun S h1 h2 => f_ok (fun k => rfl) h1 h2)
  unfold togF
  rw [hb]
  simp [snB, pc5]
theorem f_pass (flo bnd frm too amt : Nat → Int32) (small : Int32) (acc net wai : Nat → Int32) : ∀ n, passF [] flo bnd frm too amt small acc net wai n = (acc, net, wai, 0)
  | 0 => rfl
  | n + 1 => f_pass flo bnd frm too amt small acc net wai n
theorem f_rnd (flo bnd frm too amt : Nat → Int32) (small : Int32) (acc net wai : Nat → Int32) : rndF [] flo bnd frm too amt small acc net wai = (acc, net, wai, 0) := by
  unfold rndF
  rw [f_pass]
  exact f_tog flo bnd frm too amt acc net wai
theorem f_runF (pri flo bnd frm too amt : Nat → Int32) (small : Int32) (acc net wai : Nat → Int32) : runF (ordL pri 0) flo bnd frm too amt small 61 acc net wai 0 = (acc, net, wai, 0) := by
  rw [show ordL pri 0 = [] from rfl]
  show (if (rndF [] flo bnd frm too amt small acc net wai).2.2.2 = 0 then _ else _) = _
  rw [f_rnd]
  rfl
theorem f_wf {f : Nat → Int32} : wf5 0 f := fun p h => absurd h (Nat.not_lt_zero p)
theorem f_byp {f g : Nat → Int32} : bypOK f g 0 := fun p h => absurd h (Nat.not_lt_zero p)
set_option maxHeartbeats 4000000 in
set_option maxRecDepth 100000 in
theorem f_account (l : Launch) (sa : Nat → Nat) (D : va_G) (cI cZ cL : ClassId) (ad : Nat → Nat) (tacc tnet cnd : Nat → Int32) (b : Nat) (hb : b < 5) : zMi (T := Unit) sa D vwCl (zty cI cZ cL) l yX4_account wsX4_account ({ frames := 7, cells := 0, slots := 0, locals := 102 } : Room) [.ref (ad 0), .int (nI b)] (wX ad cI cZ (fun _ => 0) (fun _ => 0) tacc tnet (fun _ => 0) (bnI 25) (fun _ => 0) (fun _ => 0) (fun _ => 0) (fun _ => 0) (fun _ => 0) (fun _ => 0) (fun _ => 0) (fun _ => 0) (fun _ => 0) (fun _ => 0) (fun _ => 0) (fun _ => 0) cnd 100 100 200 0 (nI 0) (nI 0) (nI 0)) (fun r9 _ => r9 = 0) (fun _ => (wX ad cI cZ (fun _ => 0) (fun _ => 0) tacc tnet (fun _ => 0) (bnI 25) (fun _ => 0) (fun _ => 0) (fun _ => 0) (fun _ => 0) (fun _ => 0) (fun _ => 0) (fun _ => 0) (fun _ => 0) (fun _ => 0) (fun _ => 0) (fun _ => 0) (fun _ => 0) cnd 100 100 200 0 (nI 0) (nI 0) (nI 0))) 0 0 := by
  have h := c_X4_account_ok l sa D cI cZ cL ad (fun _ => 0) (fun _ => 0) tacc tnet (fun _ => 0) (bnI 25) (fun _ => 0) (fun _ => 0) (fun _ => 0) (fun _ => 0) (fun _ => 0) (fun _ => 0) (fun _ => 0) (fun _ => 0) (fun _ => 0) (fun _ => 0) (fun _ => 0) (fun _ => 0) cnd 100 100 200 0 0 0 0 b hb
  exact zMi.post h (fun r u q => q)
set_option maxHeartbeats 4000000 in
set_option maxRecDepth 100000 in
theorem f_papers (l : Launch) (sa : Nat → Nat) (D : va_G) (cI cZ cL : ClassId) (ad : Nat → Nat) (tacc tnet cnd : Nat → Int32) (b : Nat) (hb : b < 5) : zMi (T := Unit) sa D vwCl (zty cI cZ cL) l yX4_papers wsX4_papers ({ frames := 7, cells := 0, slots := 0, locals := 102 } : Room) [.ref (ad 0), .int (nI b)] (wX ad cI cZ (fun _ => 0) (fun _ => 0) tacc tnet (fun _ => 0) (bnI 25) (fun _ => 0) (fun _ => 0) (fun _ => 0) (fun _ => 0) (fun _ => 0) (fun _ => 0) (fun _ => 0) (fun _ => 0) (fun _ => 0) (fun _ => 0) (fun _ => 0) (fun _ => 0) cnd 100 100 200 0 (nI 0) (nI 0) (nI 0)) (fun r9 _ => r9 = 0) (fun _ => (wX ad cI cZ (fun _ => 0) (fun _ => 0) tacc tnet (fun _ => 0) (bnI 25) (fun _ => 0) (fun _ => 0) (fun _ => 0) (fun _ => 0) (fun _ => 0) (fun _ => 0) (fun _ => 0) (fun _ => 0) (fun _ => 0) (fun _ => 0) (fun _ => 0) (fun _ => 0) cnd 100 100 200 0 (nI 0) (nI 0) (nI 0))) 0 0 := by
  have h := c_X4_papers_ok l sa D cI cZ cL ad (fun _ => 0) (fun _ => 0) tacc tnet (fun _ => 0) (bnI 25) (fun _ => 0) (fun _ => 0) (fun _ => 0) (fun _ => 0) (fun _ => 0) (fun _ => 0) (fun _ => 0) (fun _ => 0) (fun _ => 0) (fun _ => 0) (fun _ => 0) (fun _ => 0) cnd 100 100 200 0 0 0 0 b hb
  exact zMi.post h (fun r u q => q)
set_option maxHeartbeats 4000000 in
set_option maxRecDepth 100000 in
theorem f_isOpen (l : Launch) (sa : Nat → Nat) (D : va_G) (cI cZ cL : ClassId) (ad : Nat → Nat) (tacc tnet cnd : Nat → Int32) (b : Nat) (hb : b < 5) : zMi (T := Unit) sa D vwCl (zty cI cZ cL) l yX4_isOpen wsX4_isOpen ({ frames := 7, cells := 0, slots := 0, locals := 102 } : Room) [.ref (ad 0), .int (nI b)] (wX ad cI cZ (fun _ => 0) (fun _ => 0) tacc tnet (fun _ => 0) (bnI 25) (fun _ => 0) (fun _ => 0) (fun _ => 0) (fun _ => 0) (fun _ => 0) (fun _ => 0) (fun _ => 0) (fun _ => 0) (fun _ => 0) (fun _ => 0) (fun _ => 0) (fun _ => 0) cnd 100 100 200 0 (nI 0) (nI 0) (nI 0)) (fun r9 _ => r9 = 1) (fun _ => (wX ad cI cZ (fun _ => 0) (fun _ => 0) tacc tnet (fun _ => 0) (bnI 25) (fun _ => 0) (fun _ => 0) (fun _ => 0) (fun _ => 0) (fun _ => 0) (fun _ => 0) (fun _ => 0) (fun _ => 0) (fun _ => 0) (fun _ => 0) (fun _ => 0) (fun _ => 0) cnd 100 100 200 0 (nI 0) (nI 0) (nI 0))) 0 0 := by
  have h := c_X4_isOpen_ok l sa D cI cZ cL ad (fun _ => 0) (fun _ => 0) tacc tnet (fun _ => 0) (bnI 25) (fun _ => 0) (fun _ => 0) (fun _ => 0) (fun _ => 0) (fun _ => 0) (fun _ => 0) (fun _ => 0) (fun _ => 0) (fun _ => 0) (fun _ => 0) (fun _ => 0) (fun _ => 0) cnd 100 100 200 0 0 0 0 b hb
  exact zMi.post h (fun r u q => q.trans (if_pos rfl))
set_option maxHeartbeats 4000000 in
set_option maxRecDepth 100000 in
theorem f_paid (l : Launch) (sa : Nat → Nat) (D : va_G) (cI cZ cL : ClassId) (ad : Nat → Nat) (tacc tnet cnd : Nat → Int32) (b : Nat) (o : Nat) (hb : b < 5) (ho : o < 5) : zMi (T := Unit) sa D vwCl (zty cI cZ cL) l yX4_paid wsX4_paid ({ frames := 7, cells := 0, slots := 0, locals := 102 } : Room) [.ref (ad 0), .int (nI b), .int (nI o)] (wX ad cI cZ (fun _ => 0) (fun _ => 0) tacc tnet (fun _ => 0) (bnI 25) (fun _ => 0) (fun _ => 0) (fun _ => 0) (fun _ => 0) (fun _ => 0) (fun _ => 0) (fun _ => 0) (fun _ => 0) (fun _ => 0) (fun _ => 0) (fun _ => 0) (fun _ => 0) cnd 100 100 200 0 (nI 0) (nI 0) (nI 0)) (fun r9 _ => r9 = 0) (fun _ => (wX ad cI cZ (fun _ => 0) (fun _ => 0) tacc tnet (fun _ => 0) (bnI 25) (fun _ => 0) (fun _ => 0) (fun _ => 0) (fun _ => 0) (fun _ => 0) (fun _ => 0) (fun _ => 0) (fun _ => 0) (fun _ => 0) (fun _ => 0) (fun _ => 0) (fun _ => 0) cnd 100 100 200 0 (nI 0) (nI 0) (nI 0))) 0 0 := by
  have h := c_X4_paid_ok l sa D cI cZ cL ad (fun _ => 0) (fun _ => 0) tacc tnet (fun _ => 0) (bnI 25) (fun _ => 0) (fun _ => 0) (fun _ => 0) (fun _ => 0) (fun _ => 0) (fun _ => 0) (fun _ => 0) (fun _ => 0) (fun _ => 0) (fun _ => 0) (fun _ => 0) (fun _ => 0) cnd 100 100 200 0 0 0 0 b o hb ho
  exact zMi.post h (fun r u q => q)
set_option maxHeartbeats 4000000 in
set_option maxRecDepth 100000 in
theorem f_queued (l : Launch) (sa : Nat → Nat) (D : va_G) (cI cZ cL : ClassId) (ad : Nat → Nat) (tacc tnet cnd : Nat → Int32) (b : Nat) (k : Nat) (hb : b < 5) (hk : k < 2147483648) : zMi (T := Unit) sa D vwCl (zty cI cZ cL) l yX4_queued wsX4_queued ({ frames := 7, cells := 0, slots := 0, locals := 102 } : Room) [.ref (ad 0), .int (nI b), .int (nI k)] (wX ad cI cZ (fun _ => 0) (fun _ => 0) tacc tnet (fun _ => 0) (bnI 25) (fun _ => 0) (fun _ => 0) (fun _ => 0) (fun _ => 0) (fun _ => 0) (fun _ => 0) (fun _ => 0) (fun _ => 0) (fun _ => 0) (fun _ => 0) (fun _ => 0) (fun _ => 0) cnd 100 100 200 0 (nI 0) (nI 0) (nI 0)) (fun r9 _ => r9 = (-1)) (fun _ => (wX ad cI cZ (fun _ => 0) (fun _ => 0) tacc tnet (fun _ => 0) (bnI 25) (fun _ => 0) (fun _ => 0) (fun _ => 0) (fun _ => 0) (fun _ => 0) (fun _ => 0) (fun _ => 0) (fun _ => 0) (fun _ => 0) (fun _ => 0) (fun _ => 0) (fun _ => 0) cnd 100 100 200 0 (nI 0) (nI 0) (nI 0))) 0 0 := by
  have h := c_X4_queued_ok l sa D cI cZ cL ad (fun _ => 0) (fun _ => 0) tacc tnet (fun _ => 0) (bnI 25) (fun _ => 0) (fun _ => 0) (fun _ => 0) (fun _ => 0) (fun _ => 0) (fun _ => 0) (fun _ => 0) (fun _ => 0) (fun _ => 0) (fun _ => 0) (fun _ => 0) (fun _ => 0) cnd 100 100 200 0 0 0 0 b k hb hk (by decide) f_wf f_wf f_byp
  exact zMi.post h (fun r u q => q.trans rfl)
set_option maxHeartbeats 4000000 in
set_option maxRecDepth 100000 in
theorem f_loans (l : Launch) (sa : Nat → Nat) (D : va_G) (cI cZ cL : ClassId) (ad : Nat → Nat) (tacc tnet cnd : Nat → Int32)   : zMi (T := Unit) sa D vwCl (zty cI cZ cL) l yX4_loans wsX4_loans ({ frames := 0, cells := 0, slots := 0, locals := 0 } : Room) [.ref (ad 0)] (wX ad cI cZ (fun _ => 0) (fun _ => 0) tacc tnet (fun _ => 0) (bnI 25) (fun _ => 0) (fun _ => 0) (fun _ => 0) (fun _ => 0) (fun _ => 0) (fun _ => 0) (fun _ => 0) (fun _ => 0) (fun _ => 0) (fun _ => 0) (fun _ => 0) (fun _ => 0) cnd 100 100 200 0 (nI 0) (nI 0) (nI 0)) (fun r9 _ => r9 = 0) (fun _ => (wX ad cI cZ (fun _ => 0) (fun _ => 0) tacc tnet (fun _ => 0) (bnI 25) (fun _ => 0) (fun _ => 0) (fun _ => 0) (fun _ => 0) (fun _ => 0) (fun _ => 0) (fun _ => 0) (fun _ => 0) (fun _ => 0) (fun _ => 0) (fun _ => 0) (fun _ => 0) cnd 100 100 200 0 (nI 0) (nI 0) (nI 0))) 0 0 := by
  have h := c_X4_loans l sa D cI cZ cL ad (fun _ => 0) (fun _ => 0) tacc tnet (fun _ => 0) (bnI 25) (fun _ => 0) (fun _ => 0) (fun _ => 0) (fun _ => 0) (fun _ => 0) (fun _ => 0) (fun _ => 0) (fun _ => 0) (fun _ => 0) (fun _ => 0) (fun _ => 0) (fun _ => 0) cnd 100 100 200 0 0 0 0 (by decide) (by decide)
  exact zMi.post h (fun r u q => q.trans rfl)
set_option maxHeartbeats 4000000 in
set_option maxRecDepth 100000 in
theorem f_sold (l : Launch) (sa : Nat → Nat) (D : va_G) (cI cZ cL : ClassId) (ad : Nat → Nat) (tacc tnet cnd : Nat → Int32)   : zMi (T := Unit) sa D vwCl (zty cI cZ cL) l yX4_sold wsX4_sold ({ frames := 0, cells := 0, slots := 0, locals := 0 } : Room) [.ref (ad 0)] (wX ad cI cZ (fun _ => 0) (fun _ => 0) tacc tnet (fun _ => 0) (bnI 25) (fun _ => 0) (fun _ => 0) (fun _ => 0) (fun _ => 0) (fun _ => 0) (fun _ => 0) (fun _ => 0) (fun _ => 0) (fun _ => 0) (fun _ => 0) (fun _ => 0) (fun _ => 0) cnd 100 100 200 0 (nI 0) (nI 0) (nI 0)) (fun r9 _ => r9 = 0) (fun _ => (wX ad cI cZ (fun _ => 0) (fun _ => 0) tacc tnet (fun _ => 0) (bnI 25) (fun _ => 0) (fun _ => 0) (fun _ => 0) (fun _ => 0) (fun _ => 0) (fun _ => 0) (fun _ => 0) (fun _ => 0) (fun _ => 0) (fun _ => 0) (fun _ => 0) (fun _ => 0) cnd 100 100 200 0 (nI 0) (nI 0) (nI 0))) 0 0 := by
  have h := c_X4_sold l sa D cI cZ cL ad (fun _ => 0) (fun _ => 0) tacc tnet (fun _ => 0) (bnI 25) (fun _ => 0) (fun _ => 0) (fun _ => 0) (fun _ => 0) (fun _ => 0) (fun _ => 0) (fun _ => 0) (fun _ => 0) (fun _ => 0) (fun _ => 0) (fun _ => 0) (fun _ => 0) cnd 100 100 200 0 0 0 0 
  exact zMi.post h (fun r u q => q)
set_option maxHeartbeats 4000000 in
set_option maxRecDepth 100000 in
theorem f_canAny (l : Launch) (sa : Nat → Nat) (D : va_G) (cI cZ cL : ClassId) (ad : Nat → Nat) (tacc tnet cnd : Nat → Int32)   : zMi (T := (Nat → Int32) × (Nat → Int32) × (Nat → Int32)) sa D vwCl (zty cI cZ cL) l yX4_canAny wsX4_canAny ({ frames := 6, cells := 0, slots := 0, locals := 89 } : Room) [.ref (ad 0)] (wX ad cI cZ (fun _ => 0) (fun _ => 0) tacc tnet (fun _ => 0) (bnI 25) (fun _ => 0) (fun _ => 0) (fun _ => 0) (fun _ => 0) (fun _ => 0) (fun _ => 0) (fun _ => 0) (fun _ => 0) (fun _ => 0) (fun _ => 0) (fun _ => 0) (fun _ => 0) cnd 100 100 200 0 (nI 0) (nI 0) (nI 0)) (fun r9 u => r9 = 0) (fun u => (wX ad cI cZ (fun _ => 0) (fun _ => 0) u.2.1 u.2.2 (fun _ => 0) (bnI 25) (fun _ => 0) (fun _ => 0) (fun _ => 0) (fun _ => 0) (fun _ => 0) (fun _ => 0) (fun _ => 0) (fun _ => 0) (fun _ => 0) (fun _ => 0) (fun _ => 0) (fun _ => 0) u.1 100 100 200 0 (nI 0) (nI 0) (nI 0))) 0 0 := by
  have h := c_X4_canAny_ok l sa D cI cZ cL ad (fun _ => 0) (fun _ => 0) tacc tnet (fun _ => 0) (bnI 25) (fun _ => 0) (fun _ => 0) (fun _ => 0) (fun _ => 0) (fun _ => 0) (fun _ => 0) (fun _ => 0) (fun _ => 0) (fun _ => 0) (fun _ => 0) (fun _ => 0) (fun _ => 0) cnd 100 100 200 0 0 0 0 (by decide) f_wf f_wf (by decide)
  exact zMi.post h (fun r u q => q.trans (if_neg (by decide)))
set_option maxHeartbeats 4000000 in
set_option maxRecDepth 100000 in
theorem f_run (l : Launch) (sa : Nat → Nat) (D : va_G) (cI cZ cL : ClassId) (ad : Nat → Nat) (tacc tnet cnd : Nat → Int32)   : zMi (T := (Nat → Int32) × (Nat → Int32) × (Nat → Int32)) sa D vwCl (zty cI cZ cL) l yX4_run wsX4_run ({ frames := 5, cells := 0, slots := 0, locals := 113 } : Room) [.ref (ad 0)] (wX ad cI cZ (fun _ => 0) (fun _ => 0) tacc tnet (fun _ => 0) (bnI 25) (fun _ => 0) (fun _ => 0) (fun _ => 0) (fun _ => 0) (fun _ => 0) (fun _ => 0) (fun _ => 0) (fun _ => 0) (fun _ => 0) (fun _ => 0) (fun _ => 0) (fun _ => 0) cnd 100 100 200 0 (nI 0) (nI 0) (nI 0)) (fun r9 u => r9 = 0) (fun u => (wX ad cI cZ (fun _ => 0) (fun _ => 0) u.2.1 u.2.2 (fun _ => 0) (bnI 25) (fun _ => 0) (fun _ => 0) (fun _ => 0) (fun _ => 0) (fun _ => 0) (fun _ => 0) (fun _ => 0) (fun _ => 0) (fun _ => 0) (fun _ => 0) (fun _ => 0) (fun _ => 0) u.1 100 100 200 0 (nI 0) (nI 0) (nI 0))) 0 0 := by
  have h := c_X4_run l sa D cI cZ cL ad (fun _ => 0) (fun _ => 0) tacc tnet (fun _ => 0) (bnI 25) (fun _ => 0) (fun _ => 0) (fun _ => 0) (fun _ => 0) (fun _ => 0) (fun _ => 0) (fun _ => 0) (fun _ => 0) (fun _ => 0) (fun _ => 0) (fun _ => 0) (fun _ => 0) cnd 100 100 200 0 0 0 0 (by decide) f_wf f_wf f_byp
  rw [f_runF] at h
  exact h
set_option maxHeartbeats 4000000 in
set_option maxRecDepth 100000 in
theorem f_morning (l : Launch) (sa : Nat → Nat) (D : va_G) (cI cZ cL : ClassId) (ad : Nat → Nat) (tacc tnet cnd : Nat → Int32)   : zMi (T := Unit) sa D vwCl (zty cI cZ cL) l yX4_morning wsX4_morning ({ frames := 2, cells := 0, slots := 0, locals := 45 } : Room) [.ref (ad 0)] (wX ad cI cZ (fun _ => 0) (fun _ => 0) tacc tnet (fun _ => 0) (bnI 25) (fun _ => 0) (fun _ => 0) (fun _ => 0) (fun _ => 0) (fun _ => 0) (fun _ => 0) (fun _ => 0) (fun _ => 0) (fun _ => 0) (fun _ => 0) (fun _ => 0) (fun _ => 0) cnd 100 100 200 0 (nI 0) (nI 0) (nI 0)) (fun r9 _ => r9 = 0) (fun _ => (wX ad cI cZ (fun _ => 0) (fun _ => 0) tacc tnet (fun _ => 0) (bnI 25) (fun _ => 0) (fun _ => 0) (fun _ => 0) (fun _ => 0) (fun _ => 0) (fun _ => 0) (fun _ => 0) (fun _ => 0) (fun _ => 0) (fun _ => 0) (fun _ => 0) (fun _ => 0) cnd 100 100 200 0 (nI 0) (nI 0) (nI 0))) 0 0 := by
  have h := c_X4_morning l sa D cI cZ cL ad (fun _ => 0) (fun _ => 0) tacc tnet (fun _ => 0) (bnI 25) (fun _ => 0) (fun _ => 0) (fun _ => 0) (fun _ => 0) (fun _ => 0) (fun _ => 0) (fun _ => 0) (fun _ => 0) (fun _ => 0) (fun _ => 0) (fun _ => 0) (fun _ => 0) cnd 100 100 200 0 0 0 0 (by decide) f_wf f_wf (by decide) f_wf f_wf (by decide)
  rw [f_clr] at h
  exact zMi.post h (fun r u q => q.trans rfl)
