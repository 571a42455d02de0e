/-! the public methods of the reference: their answers (a_) and the state behind them (t_) -/
def s_rng (x lo hi : Int32) : Bool := decide (x < lo ∨ hi < x)
theorem bey_9 (x : Int32) : s_bey x.toInt64 0 9 = s_rng x 0 9 := bey32 x 0 9
theorem bey_10 (x : Int32) : s_bey x.toInt64 0 10 = s_rng x 0 10 := bey32 x 0 10
theorem bey_16 (x : Int32) : s_bey x.toInt64 0 16 = s_rng x 0 16 := bey32 x 0 16
theorem bey_7 (x : Int32) : s_bey x.toInt64 0 7 = s_rng x 0 7 := bey32 x 0 7
theorem bey_4 (x : Int32) : s_bey x.toInt64 0 4 = s_rng x 0 4 := bey32 x 0 4
theorem bey_5 (x : Int32) : s_bey x.toInt64 0 5 = s_rng x 0 5 := bey32 x 0 5
theorem bey_3 (x : Int32) : s_bey x.toInt64 0 3 = s_rng x 0 3 := bey32 x 0 3
theorem bey_m (x : Int32) : s_bey x.toInt64 (-1) 16 = s_rng x (-1) 16 := bey32 x (-1) 16
theorem bey_e (x e : Int32) : s_bey x.toInt64 0 e.toInt64 = s_rng x 0 e := bey32 x 0 e
def a_rack (r k n : Int32) : Int32 := if s_no r = true then -1 else if s_rng k 0 10 = true then -2 else if s_rng n 0 16 = true then -2 else n
def t_rack (σ : sg) (r k n : Int32) : sg := if s_no r = true then σ else if s_rng k 0 10 = true then σ else if s_rng n 0 16 = true then σ else sa (s_newS (sa σ 0 r.toNatClampNeg 3) k n) 1 r.toNatClampNeg (σ.1 8)
def a_hang (σ : sg) (r : Int32) : Int32 := if s_no r = true then -1 else if σ.1 2 < 2 then -3 else 1
def t_hang (σ : sg) (r : Int32) : sg := if s_no r = true then σ else if σ.1 2 < 2 then σ else sa (sa σ 0 r.toNatClampNeg (σ.1 2)) 1 r.toNatClampNeg (σ.1 5)
def a_share (r f : Int32) : Int32 := if s_no r = true then -1 else if s_no f = true then -1 else 1
def t_share (σ : sg) (r f : Int32) : sg := if s_no r = true then σ else if s_no f = true then σ else sa (sa σ 0 r.toNatClampNeg (xT σ f)) 1 r.toNatClampNeg (xW σ f)
def a_empty (r : Int32) : Int32 := if s_no r = true then -1 else 1
def t_empty (σ : sg) (r : Int32) : sg := if s_no r = true then σ else sa σ 0 r.toNatClampNeg 0
def a_gauge (k : Int32) : Int32 := if s_rng k 0 7 = true then -2 else 1
def t_gauge (σ : sg) (k : Int32) (v : Int64) : sg := if s_rng k 0 7 = true then σ else s_hold σ k (s_as k v)
def a_probe (σ : sg) : Int32 := if σ.1 6 = 40 then -4 else σ.1 6 + 1
def t_probe (σ : sg) (b : Int32) : sg := if σ.1 6 = 40 then σ else si (si (sa (si σ 6 (σ.1 6 + 1)) 7 (σ.1 6 + 1).toNatClampNeg b) 2 2) 5 (σ.1 6 + 1)
def a_line (n : Int32) : Int32 := if s_rng n 0 4 = true then -2 else 1
def t_line (σ : sg) (n : Int32) : sg := if s_rng n 0 4 = true then σ else si (s_newS (si σ 2 3) 4 n) 5 (σ.1 8)
def t_none (σ : sg) : sg := si σ 2 0
def a_get (σ : sg) (r i : Int32) : Int32 := if s_no r = true then -1 else s_ans (s_gF σ (xT σ r) (xW σ r) i) (s_has (s_getS σ r i))
def t_get (σ : sg) (r i : Int32) : sg := if s_no r = true then σ else s_ansS (s_getS σ r i) (s_gF σ (xT σ r) (xW σ r) i)
def a_set (σ : sg) (r i : Int32) : Int32 := if s_no r = true then -1 else s_ans (s_sF σ r i) 1
def t_sett (σ : sg) (r i : Int32) : sg := if s_no r = true then σ else s_ansS (s_setS σ r i) (s_sF σ r i)
def a_read (σ : sg) (r i to : Int32) : Int32 := if s_no r = true then -1 else if s_rng to 0 7 = true then -2 else s_ans (s_rF σ (xT σ r) (xW σ r) i to) 1
def t_read (σ : sg) (r i to : Int32) : sg := if s_no r = true then σ else if s_rng to 0 7 = true then σ else s_ansS (s_readS σ (xT σ r) (xW σ r) i to) (s_rF σ (xT σ r) (xW σ r) i to)
def a_write (σ : sg) (r i of : Int32) : Int32 := if s_no r = true then -1 else if s_rng of 0 7 = true then -2 else if ¬ σ.1 2 = 1 then -3 else s_ans (s_wF σ (xT σ r) (xW σ r) i of) 1
def t_write (σ : sg) (r i of : Int32) : sg := if s_no r = true then σ else if s_rng of 0 7 = true then σ else if ¬ σ.1 2 = 1 then σ else s_ansS (s_writeS σ (xT σ r) (xW σ r) i of σ.2.1) (s_wF σ (xT σ r) (xW σ r) i of)
def a_size (σ : sg) (r : Int32) : Int32 := if s_no r = true then -1 else s_ans (s_szF σ r) (if s_szF σ r ≤ 0 then xS σ (xW σ r) else 0)
def t_size (σ : sg) (r : Int32) : sg := if s_no r = true then σ else s_ansS σ (s_szF σ r)
def a_within (σ : sg) (r i j : Int32) : Int32 := if s_no r = true then -1 else s_ans (s_wiF σ r i j) 1
def t_within (σ : sg) (r i j : Int32) : sg := if s_no r = true then σ else s_ansS (s_wiS σ r i j) (s_wiF σ r i j)
def s_inF (σ : sg) (r i j : Int32) : Int32 := if s_gF σ (xT σ r) (xW σ r) i ≤ 0 then s_wF (s_fiS σ r i) ((s_fiS σ r i).1 18) ((s_fiS σ r i).1 19) j 4 else s_gF σ (xT σ r) (xW σ r) i
def s_inS (σ : sg) (r i j v : Int32) : sg := if s_gF σ (xT σ r) (xW σ r) i ≤ 0 then s_writeS (s_fiS σ r i) ((s_fiS σ r i).1 18) ((s_fiS σ r i).1 19) j 4 v.toInt64 else s_fiS σ r i
def a_into (σ : sg) (r i j : Int32) : Int32 := if s_no r = true then -1 else s_ans (s_inF σ r i j) 1
def t_into (σ : sg) (r i j v : Int32) : sg := if s_no r = true then σ else s_ansS (s_inS σ r i j v) (s_inF σ r i j)
def s_paF (σ : sg) (q t2 q2 k as : Int32) : Int32 := if s_rF σ 3 q k as ≤ 0 then s_wF σ t2 q2 k as else s_rF σ 3 q k as
def s_passL (q t2 q2 as : Int32) : Nat → Nat → sg → Int32 × sg
  | 0, k, σ => (nI k, σ)
  | m + 1, k, σ => if s_paF σ q t2 q2 (nI k) as ≤ 0 then s_passL q t2 q2 as m (k + 1) (s_writeS σ t2 q2 (nI k) as (xP σ q (nI k))) else (nI k, s_met1 σ (s_paF σ q t2 q2 (nI k) as))
def s_pass (σ : sg) (r to as : Int32) : Int32 × sg := if s_no r = true then (-1, σ) else if s_no to = true then (-1, σ) else if s_rng as 0 7 = true then (-2, σ) else if s_szF σ r ≤ 0 then s_passL (xW σ r) (xT σ to) (xW σ to) as (xS σ (xW σ r)).toNatClampNeg 0 σ else (s_ans (s_szF σ r) 0, s_ansS σ (s_szF σ r))
def s_fiF (σ : sg) (r : Int32) : Int32 := if s_szF σ r ≤ 0 then (if xS σ (xW σ r) = 0 then 3 else 0) else s_szF σ r
def s_bits (p : Nat → Bool) : Nat → Nat → Int32 → Int32
  | 0, _, acc => acc
  | m + 1, k, acc => s_bits p m (k + 1) (acc ||| (if p k = true then (1 : Int32) <<< (nI k &&& 31) else 0))
def s_kp (w : Bool) (of : Int32) : Nat → Bool := fun k => decide (of < 8) && (if w = true then s_goes (nI k) of else s_goes of (nI k))
def a_kinds (σ : sg) (r : Int32) (w : Bool) : Int32 := if s_no r = true then -1 else s_ans (s_fiF σ r) (if s_fiF σ r = 0 then s_bits (s_kp w (xK σ (xW σ r))) 8 0 0 else 0)
def t_kinds (σ : sg) (r : Int32) : sg := if s_no r = true then σ else s_ansS σ (s_fiF σ r)
def a_step (σ : sg) (op a i b k : Int32) : Int32 := if s_no a = true then -1 else if s_no b = true then -1 else if s_rng op 0 5 = true then -2 else if s_rng i (-1) 16 = true then -2 else if s_rng k 0 7 = true then -2 else if σ.1 12 = 12 then -4 else σ.1 12 + 1
def s_st5 (σ : sg) (p : Int32) (op a i b k : Int32) : sg := sa (sa (sa (sa (sa σ 13 p.toNatClampNeg op) 13 (p + 1).toNatClampNeg a) 13 (p + 2).toNatClampNeg i) 13 (p + 3).toNatClampNeg b) 13 (p + 4).toNatClampNeg k
def t_step (σ : sg) (op a i b k : Int32) : sg := if s_no a = true then σ else if s_no b = true then σ else if s_rng op 0 5 = true then σ else if s_rng i (-1) 16 = true then σ else if s_rng k 0 7 = true then σ else if σ.1 12 = 12 then σ else si (s_st5 σ (5 * σ.1 12) op a i b k) 12 (σ.1 12 + 1)
def xO (σ : sg) (p : Int32) : Int32 := σ.2.2.1 13 p.toNatClampNeg
/-- the gauge's four numbers back from σ0 -/
def s_back (σ σ0 : sg) : sg := si (sv (si (si σ 2 (σ0.1 2)) 3 (σ0.1 3)) σ0.2.1) 5 (σ0.1 5)
def s_moF (σ : sg) (a i b k : Int32) : Int32 := if s_gF σ (xT σ a) (xW σ a) i ≤ 0 then s_sF (s_getS σ a i) b k else s_gF σ (xT σ a) (xW σ a) i
def s_moS (σ : sg) (a i b k : Int32) : sg := if s_gF σ (xT σ a) (xW σ a) i ≤ 0 then s_back (s_setS (s_getS σ a i) b k) σ else s_back (s_getS σ a i) σ
def s_doF (σ : sg) (op a i b k : Int32) : Int32 := if op = 0 then s_gF σ (xT σ a) (xW σ a) i else if op = 1 then s_sF σ a i else if op = 2 then s_rF σ (xT σ a) (xW σ a) i k else if op = 3 then (if ¬ σ.1 2 = 1 then 0 else s_wF σ (xT σ a) (xW σ a) i k) else if op = 4 then s_wiF σ a i k else s_moF σ a i b k
def s_doS (σ : sg) (op a i b k : Int32) : sg := if op = 0 then s_getS σ a i else if op = 1 then s_setS σ a i else if op = 2 then s_readS σ (xT σ a) (xW σ a) i k else if op = 3 then (if ¬ σ.1 2 = 1 then σ else s_writeS σ (xT σ a) (xW σ a) i k σ.2.1) else if op = 4 then s_wiS σ a i k else s_moS σ a i b k
def s_stF (σ : sg) (p : Int32) : Int32 := s_doF σ (xO σ p) (xO σ (p + 1)) (xO σ (p + 2)) (xO σ (p + 3)) (xO σ (p + 4))
def s_stS (σ : sg) (p : Int32) : sg := s_doS σ (xO σ p) (xO σ (p + 1)) (xO σ (p + 2)) (xO σ (p + 3)) (xO σ (p + 4))
/-- one step done: its fault noted, 'done' grown -/
def s_r1 (σ : sg) : sg := si (sa (s_stS σ (5 * σ.1 14)) 15 ((s_stS σ (5 * σ.1 14)).1 14).toNatClampNeg (s_stF σ (5 * σ.1 14))) 14 ((s_stS σ (5 * σ.1 14)).1 14 + 1)
def s_runL (stops : Bool) : Nat → Int32 → sg → Int32 × sg
  | 0, good, σ => (good, σ)
  | m + 1, good, σ => if s_stF σ (5 * σ.1 14) ≤ 0 then s_runL stops m (good + (if s_stF σ (5 * σ.1 14) = 0 then 1 else 0)) (s_r1 σ) else if stops = true then (good + 0, s_met1 (s_r1 σ) (s_stF σ (5 * σ.1 14))) else s_runL stops m (good + 0) (s_met1 (s_r1 σ) (s_stF σ (5 * σ.1 14)))
def s_run (σ : sg) (stops : Bool) : Int32 × sg := s_runL stops (σ.1 12).toNatClampNeg 0 (si σ 14 0)
def a_met (σ : sg) (k : Int32) : Int32 := if s_rng k 0 (σ.1 14 - 1) = true then -9 else σ.2.2.1 15 k.toNatClampNeg
def t_clear (σ : sg) : sg := si (si σ 12 0) 14 0
def a_faults (σ : sg) (k : Int32) : Int32 := if s_rng k 0 3 = true then -9 else σ.2.2.1 17 k.toNatClampNeg
def a_told (σ : sg) (r : Int32) : Int32 := if s_no r = true then -1 else if xT σ r = 0 then -9 else if xT σ r = 3 then xK σ (xW σ r) else if xF σ (xW σ r) = 0 then 11 else 12
def s_sm (σ : sg) (r : Int32) (k : Nat) : Bool := decide (0 < xT σ r ∧ σ.2.2.1 0 k = xT σ r ∧ σ.2.2.1 1 k = xW σ r)
def s_cnt (p : Nat → Bool) : Nat → Nat → Int32 → Int32
  | 0, _, acc => acc
  | m + 1, k, acc => s_cnt p m (k + 1) (acc + (if p k = true then 1 else 0))
def a_same (σ : sg) (r : Int32) : Int32 := if s_no r = true then -1 else s_cnt (s_sm σ r) 10 0 0
def okk (σ : sg) : Prop := (∀ r, vp_in r 10 → xT σ r = 3 → rk σ (xW σ r)) ∧ (σ.1 2 = 2 → vp_in (σ.1 5) 41) ∧ (σ.1 2 ≠ 0 → σ.1 2 ≠ 1 → σ.1 2 ≠ 3 → vp_in (σ.1 5) 41) ∧ (σ.1 2 ≠ 0 → σ.1 2 ≠ 1 → σ.1 2 ≠ 2 → vp_in (σ.1 5) 5000)
def okG (σ : sg) : Prop := okk σ ∧ (∀ r i, vp_in r 10 → okk (s_getS σ r i)) ∧ (∀ r i, vp_in r 10 → s_gF σ (xT σ r) (xW σ r) i ≤ 0 → (s_fiS σ r i).1 18 = 3 → rk (s_fiS σ r i) ((s_fiS σ r i).1 19))
theorem in4_0 : vp_in 0 4 := by unfold vp_in; decide
theorem in4_1 : vp_in 1 4 := by unfold vp_in; decide
theorem in4_2 : vp_in 2 4 := by unfold vp_in; decide
theorem in4_3 : vp_in 3 4 := by unfold vp_in; decide
theorem in4_if {c : Prop} {_ : Decidable c} {a b : Int32} (ha : vp_in a 4) (hb : vp_in b 4) : vp_in (if c then a else b) 4 := by split <;> assumption
theorem gF_in (σ : sg) (t q i : Int32) : vp_in (s_gF σ t q i) 4 := in4_if in4_1 (in4_if in4_2 (in4_if in4_3 in4_0))
theorem rF_in (σ : sg) (t q i to : Int32) : vp_in (s_rF σ t q i to) 4 := in4_if in4_1 (in4_if in4_2 (in4_if in4_2 (in4_if in4_3 (in4_if in4_0 in4_2))))
theorem wF_in (σ : sg) (t q i to : Int32) : vp_in (s_wF σ t q i to) 4 := in4_if in4_1 (in4_if in4_2 (in4_if in4_2 (in4_if in4_3 (in4_if in4_0 in4_2))))
theorem sF_in (σ : sg) (r i : Int32) : vp_in (s_sF σ r i) 4 := in4_if (in4_if in4_1 in4_2) (in4_if in4_2 (in4_if in4_3 (in4_if in4_2 in4_0)))
theorem szF_in (σ : sg) (r : Int32) : vp_in (s_szF σ r) 4 := in4_if in4_1 (in4_if in4_2 in4_0)
theorem wiF_in (σ : sg) (r i j : Int32) : vp_in (s_wiF σ r i j) 4 := in4_if (gF_in _ _ _ _) (rF_in _ _ _ _ _)
theorem inF_in (σ : sg) (r i j : Int32) : vp_in (s_inF σ r i j) 4 := in4_if (wF_in _ _ _ _ _) (gF_in _ _ _ _)
theorem paF_in (σ : sg) (q t2 q2 k as : Int32) : vp_in (s_paF σ q t2 q2 k as) 4 := in4_if (wF_in _ _ _ _ _) (rF_in _ _ _ _ _)
theorem fiF_in (σ : sg) (r : Int32) : vp_in (s_fiF σ r) 4 := in4_if (in4_if in4_3 in4_0) (szF_in _ _)
theorem moF_in (σ : sg) (a i b k : Int32) : vp_in (s_moF σ a i b k) 4 := in4_if (sF_in _ _ _) (gF_in _ _ _ _)
theorem doF_in (σ : sg) (op a i b k : Int32) : vp_in (s_doF σ op a i b k) 4 := in4_if (gF_in _ _ _ _) (in4_if (sF_in _ _ _) (in4_if (rF_in _ _ _ _ _) (in4_if (in4_if in4_0 (wF_in _ _ _ _ _)) (in4_if (wiF_in _ _ _ _) (moF_in _ _ _ _ _)))))
theorem getS_a (σ : sg) (r i : Int32) : (s_getS σ r i).2.2.1 = σ.2.2.1 := by
  unfold s_getS; split
  · unfold s_gets; split <;> rfl
  · rfl
theorem fiS_a (σ : sg) (r i : Int32) : (s_fiS σ r i).2.2.1 = σ.2.2.1 := by
  unfold s_fiS; split <;> rfl
theorem rng3_in {k : Int32} (h : s_rng k 0 3 = false) : vp_in k 4 := by
  rw [vp_in_iff]
  unfold s_rng at h
  simp only [decide_eq_false_iff_not, not_or, Int32.not_lt, Int32.le_iff_toInt_le] at h
  have h1 : (0 : Int32).toInt = 0 := by decide
  have h2 : (3 : Int32).toInt = 3 := by decide
  omega
