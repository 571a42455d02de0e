/-! what the reference does, as functions of its state -/
def zb (b : Bool) : Int32 := if b = true then 1 else 0
theorem zb_0 {b : Bool} : zb b = 0 ↔ b = false := by cases b <;> simp [zb]
theorem zb_n {b : Bool} : ¬ zb b = 0 ↔ b = true := by cases b <;> simp [zb]
theorem zb_nar (b : Bool) : narrow .boolean (.int (zb b)) = .int (zb b) := by cases b <;> rfl
theorem cmp_lt {x y : Int64} : lg_cmp x y < 0 ↔ x < y := by
  unfold lg_cmp
  by_cases h : x > y
  · rw [if_pos h]
    constructor
    · intro q; exact absurd q (by decide)
    · intro q; exact (Int64.lt_irrefl (Int64.lt_trans q h)).elim
  · rw [if_neg h]
    by_cases h2 : x = y
    · rw [if_pos h2]; subst h2
      constructor
      · intro q; exact absurd q (by decide)
      · intro q; exact (Int64.lt_irrefl q).elim
    · rw [if_neg h2]
      constructor
      · intro _; exact Int64.lt_of_le_of_ne (Int64.not_lt.mp h) h2
      · intro _; decide
theorem cmp_le {x y : Int64} : lg_cmp x y ≤ 0 ↔ x ≤ y := by
  unfold lg_cmp
  by_cases h : x > y
  · rw [if_pos h]
    constructor
    · intro q; exact absurd q (by decide)
    · intro q; exact absurd h (Int64.not_lt.mpr q)
  · rw [if_neg h]
    constructor
    · intro _; exact Int64.not_lt.mp h
    · intro _; split <;> decide
theorem cmp_eq {x y : Int64} : lg_cmp x y = 0 ↔ x = y := by
  unfold lg_cmp
  by_cases h : x > y
  · rw [if_pos h]
    constructor
    · intro q; exact absurd q (by decide)
    · intro q; subst q; exact (Int64.lt_irrefl h).elim
  · rw [if_neg h]
    by_cases h2 : x = y
    · rw [if_pos h2]; exact ⟨fun _ => h2, fun _ => rfl⟩
    · rw [if_neg h2]
      exact ⟨fun q => absurd q (by decide), fun q => absurd q h2⟩
abbrev xT (σ : sg) (r : Int32) : Int32 := σ.2.2.1 0 r.toNatClampNeg
abbrev xW (σ : sg) (r : Int32) : Int32 := σ.2.2.1 1 r.toNatClampNeg
abbrev xF (σ : sg) (q : Int32) : Int32 := σ.2.2.1 7 q.toNatClampNeg
abbrev xK (σ : sg) (q : Int32) : Int32 := σ.2.2.1 9 q.toNatClampNeg
abbrev xS (σ : sg) (q : Int32) : Int32 := σ.2.2.1 10 q.toNatClampNeg
abbrev xP (σ : sg) (q i : Int32) : Int64 := σ.2.2.2 (16 * q + i).toNatClampNeg
def s_bey (v a b : Int64) : Bool := decide (v < a ∨ b < v)
def s_no (r : Int32) : Bool := decide (r < 0 ∨ 9 < r)
def s_goes (k t : Int32) : Bool := decide (k = t ∨ (0 < k ∧ k < t ∧ t < 8 ∧ (3 < t ∨ (t = 3 ∧ k = 1))))
def s_as (k : Int32) (v : Int64) : Int64 := if k = 0 then (if v = 0 then 0 else 1) else if k = 1 then v.toInt32.toInt8.toInt32.toInt64 else if k = 2 then (v.toInt32.toUInt32 % 65536).toInt32.toInt64 else if k = 3 then v.toInt32.toInt16.toInt32.toInt64 else if k = 4 then v.toInt32.toInt64 else if k = 5 then v else if k = 6 then FP.f2l (FP.l2f v) else FP.d2l (FP.l2d v)
/-- an index outside a row of S places -/
def s_out (i S : Int32) : Bool := decide (i < 0 ∨ S - 1 < i)
def s_met1 (σ : sg) (f : Int32) : sg := sa (sa (si σ 16 f) 17 f.toNatClampNeg ((si σ 16 f).2.2.1 17 f.toNatClampNeg + 1)) 17 0 ((sa (si σ 16 f) 17 f.toNatClampNeg ((si σ 16 f).2.2.1 17 f.toNatClampNeg + 1)).2.2.1 17 0 + 1)
def s_ans (f good : Int32) : Int32 := if f ≤ 0 then good else -10 - f
def s_ansS (σ : sg) (f : Int32) : sg := if f ≤ 0 then σ else s_met1 σ f
def s_hold (σ : sg) (k : Int32) (v : Int64) : sg := sv (si (si σ 2 1) 3 k) v
def s_gF (σ : sg) (t q i : Int32) : Int32 := if t = 0 then 1 else if ¬ t = 3 then 2 else if s_out i (xS σ q) = true then 3 else 0
def s_rF (σ : sg) (t q i to : Int32) : Int32 := if t = 0 then 1 else if ¬ t = 3 then 2 else if ¬ xK σ q < 8 then 2 else if s_out i (xS σ q) = true then 3 else if s_goes (xK σ q) to = true then 0 else 2
def s_wF (σ : sg) (t q i of : Int32) : Int32 := if t = 0 then 1 else if ¬ t = 3 then 2 else if ¬ xK σ q < 8 then 2 else if s_out i (xS σ q) = true then 3 else if s_goes of (xK σ q) = true then 0 else 2
def s_unfit (σ : sg) (q : Int32) : Bool := if xK σ q < 8 then decide (¬ σ.1 2 = 1) || !(s_goes (σ.1 3) (xK σ q)) else decide (σ.1 2 = 1 ∨ (σ.1 2 = 2 ∧ (xK σ q = 10 ∨ (xK σ q = 9 ∧ xF σ (σ.1 5) = 0))) ∨ (σ.1 2 = 3 ∧ ¬ xK σ q = 10))
def s_sF (σ : sg) (r i : Int32) : Int32 := if ¬ xT σ r = 3 then (if xT σ r = 0 then 1 else 2) else if xK σ (xW σ r) < 8 ∧ σ.1 2 = 0 then 2 else if s_out i (xS σ (xW σ r)) = true then 3 else if s_unfit σ (xW σ r) = true then 2 else 0
def s_gets (σ : sg) (q i : Int32) : sg := if xK σ q < 8 then s_hold σ (xK σ q) (xP σ q i) else si (si σ 2 (if xP σ q i = 0 then 0 else if xK σ q = 10 then 3 else 2)) 5 (if xK σ q = 10 then xP σ q i - 1 else xP σ q i).toInt32
def s_getS (σ : sg) (r i : Int32) : sg := if s_gF σ (xT σ r) (xW σ r) i = 0 then s_gets σ (xW σ r) i else σ
def s_setV (σ : sg) (q : Int32) : Int64 := if σ.1 2 = 0 then 0 else if σ.1 2 = 1 then s_as (xK σ q) σ.2.1 else if σ.1 2 = 2 then (σ.1 5).toInt64 else (σ.1 5).toInt64 + 1
def s_setS (σ : sg) (r i : Int32) : sg := if s_sF σ r i = 0 then sp σ (16 * xW σ r + i).toNatClampNeg (s_setV σ (xW σ r)) else σ
def s_readS (σ : sg) (t q i to : Int32) : sg := if s_rF σ t q i to = 0 then s_hold σ to (s_as to (xP σ q i)) else σ
def s_writeS (σ : sg) (t q i of : Int32) (v : Int64) : sg := if s_wF σ t q i of = 0 then sp σ (16 * q + i).toNatClampNeg (s_as (xK σ q) (s_as of v)) else σ
def s_szF (σ : sg) (r : Int32) : Int32 := if xT σ r = 0 then 1 else if ¬ xT σ r = 3 then 2 else 0
def s_fiT (σ : sg) (q i : Int32) : Int32 := if xK σ q < 8 then 1 else if xP σ q i = 0 then 0 else if xK σ q = 10 then 3 else 2
def s_fiS (σ : sg) (r i : Int32) : sg := if s_gF σ (xT σ r) (xW σ r) i = 0 then si (si σ 18 (s_fiT σ (xW σ r) i)) 19 (if s_fiT σ (xW σ r) i = 3 then (xP σ (xW σ r) i).toInt32 - 1 else 0) else σ
def s_wiF (σ : sg) (r i j : Int32) : Int32 := if 0 < s_gF σ (xT σ r) (xW σ r) i then s_gF σ (xT σ r) (xW σ r) i else s_rF (s_fiS σ r i) ((s_fiS σ r i).1 18) ((s_fiS σ r i).1 19) j 5
def s_wiS (σ : sg) (r i j : Int32) : sg := if 0 < s_gF σ (xT σ r) (xW σ r) i then s_fiS σ r i else s_readS (s_fiS σ r i) ((s_fiS σ r i).1 18) ((s_fiS σ r i).1 19) j 5
def s_has (σ : sg) : Int32 := if σ.1 2 = 0 then -9 else if σ.1 2 = 1 then σ.1 3 else if σ.1 2 = 3 then 10 else if xF σ (σ.1 5) = 0 then 8 else 9
def s_val (σ : sg) : Int64 := if σ.1 2 = 0 then 0 else if σ.1 2 = 1 then σ.2.1 else if σ.1 2 = 2 then (σ.1 5).toInt64 else (xS σ (σ.1 5)).toInt64
def s_newS (σ : sg) (k n : Int32) : sg := (upd σ.1 8 (σ.1 8 + 1), σ.2.1, va_up (va_up σ.2.2.1 9 (upd (σ.2.2.1 9) (σ.1 8).toNatClampNeg k)) 10 (upd (σ.2.2.1 10) (σ.1 8).toNatClampNeg n), fun a => if 16 * (σ.1 8).toNatClampNeg ≤ a ∧ a < 16 * (σ.1 8).toNatClampNeg + 16 then 0 else σ.2.2.2 a)
theorem lt64 {a b : Int32} : a.toInt64 < b.toInt64 ↔ a < b := by
  rw [Int64.lt_iff_toInt_lt, Int32.lt_iff_toInt_lt, Int32.toInt_toInt64, Int32.toInt_toInt64]
theorem bey32 (i a b : Int32) : s_bey i.toInt64 a.toInt64 b.toInt64 = decide (i < a ∨ b < i) := by
  unfold s_bey
  congr 1
  rw [lt64, lt64]
def rk (σ : sg) (q : Int32) : Prop := vp_in q 5000 ∧ ∀ i, s_out i (xS σ q) = false → vp_in (16 * q + i) 80000
theorem no_bey (r : Int32) : s_bey r.toInt64 0 9 = s_no r := bey32 r 0 9
theorem no_in {r : Int32} (h : s_no r = false) : vp_in r 10 := by
  rw [vp_in_iff]
  unfold s_no at h
  simp only [decide_eq_false_iff_not, not_or, Int32.not_lt, Int32.le_iff_toInt_le] at h
  have h1 : (0 : Int32).toInt = 0 := by decide
  have h2 : (9 : Int32).toInt = 9 := by decide
  omega
theorem out_bey (i S : Int32) : s_bey i.toInt64 0 (S - 1).toInt64 = s_out i S := bey32 i 0 (S - 1)
