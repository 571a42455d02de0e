/-! turning a long into a float or double and back does nothing the second time -/
def fl_g (f : Jvm.FP.Core.Fmt) (v : Int64) : Int64 := Jvm.FP.Core.toL (Jvm.FP.Core.round f (Jvm.FP.Core.ofInt v.toInt))
theorem fl_low {f : Jvm.FP.Core.Fmt} (hf : Jvm.FP.Core.Good f) {s : Bool} {A : Nat} (hA : 0 < A) {s' : Bool} {c : Nat} {q : Int} (hq : q ≤ 0) (h : Jvm.FP.Core.roundRatio f s A 1 0 = .fin s' c q) : Jvm.FP.Core.truncate s' c q = Jvm.FP.Core.signed s A := by
  unfold Jvm.FP.Core.roundRatio at h
  rw [if_neg (by omega)] at h
  unfold Jvm.FP.Core.roundAt at h
  have hb := Jvm.FP.Core.quantum_below (f := f) hA (show 0 < 1 by decide) 0
  generalize Jvm.FP.Core.quantum f A 1 0 = Qn at h hb
  by_cases hQ : Qn ≤ 0
  · have hd : Jvm.FP.Core.unitsDen 1 0 Qn = 1 := by
      unfold Jvm.FP.Core.unitsDen
      rw [show (Qn - 0).toNat = 0 by omega]
    rw [← Jvm.FP.Core.units_below, hd] at hb
    rw [hd] at h
    have hm : Jvm.FP.Core.nearest (Jvm.FP.Core.unitsNum A 0 Qn) 1 = Jvm.FP.Core.unitsNum A 0 Qn := by
      have := Jvm.FP.Core.nearest_exact (B := 1) (Jvm.FP.Core.unitsNum A 0 Qn) (by decide)
      rwa [Nat.mul_one] at this
    rw [hm] at h
    unfold Jvm.FP.Core.settle at h
    rw [if_pos (by omega)] at h
    unfold Jvm.FP.Core.bound at h
    split at h
    · injection h with h1 h2 h3
      subst h1; subst h2; subst h3
      unfold Jvm.FP.Core.truncate Jvm.FP.Core.unitsNum
      rw [show Qn.toNat = 0 by omega, show (0 - Qn).toNat = (-Qn).toNat by omega, Nat.pow_zero, Nat.mul_one, Nat.mul_div_cancel _ (Nat.two_pow_pos _)]
    · cases h
  · exfalso
    unfold Jvm.FP.Core.settle Jvm.FP.Core.bound at h
    split at h
    · split at h
      · injection h with h1 h2 h3; omega
      · cases h
    · split at h
      · injection h with h1 h2 h3; omega
      · cases h
theorem fl_toL {f : Jvm.FP.Core.Fmt} (hf : Jvm.FP.Core.Good f) (h0 : fl_g f 0 = 0) (hhi : fl_g f (Int64.ofInt (2 ^ 63 - 1)) = Int64.ofInt (2 ^ 63 - 1)) (hlo : fl_g f (Int64.ofInt (-2 ^ 63)) = Int64.ofInt (-2 ^ 63)) (v : Int64) : fl_g f (fl_g f v) = fl_g f v := by
  have hfit := Jvm.FP.Core.round_fits hf (Jvm.FP.Core.ofInt v.toInt)
  have hw : fl_g f v = Jvm.FP.Core.toL (Jvm.FP.Core.round f (Jvm.FP.Core.ofInt v.toInt)) := rfl
  rw [hw]
  cases hd : Jvm.FP.Core.round f (Jvm.FP.Core.ofInt v.toInt) with
  | nan => exact h0
  | inf s =>
    cases s
    · exact hhi
    · exact hlo
  | fin s c q =>
    rw [hd] at hfit
    show fl_g f (Int64.ofInt (max (-2 ^ 63) (min (2 ^ 63 - 1) (Jvm.FP.Core.truncate s c q)))) = Int64.ofInt (max (-2 ^ 63) (min (2 ^ 63 - 1) (Jvm.FP.Core.truncate s c q)))
    generalize hy : Jvm.FP.Core.truncate s c q = y at *
    by_cases h1 : 2 ^ 63 - 1 < y
    · rw [show max (-2 ^ 63) (min (2 ^ 63 - 1) y) = 2 ^ 63 - 1 by omega]; exact hhi
    · by_cases h2 : y < -2 ^ 63
      · rw [show max (-2 ^ 63) (min (2 ^ 63 - 1) y) = -2 ^ 63 by omega]; exact hlo
      · rw [show max (-2 ^ 63) (min (2 ^ 63 - 1) y) = y by omega]
        have hyi : (Int64.ofInt y).toInt = y := Int64.toInt_ofInt_of_le (by omega) (by omega)
        have hback : Jvm.FP.Core.toL (.fin s c q) = Int64.ofInt y := by
          show Int64.ofInt (max (-2 ^ 63) (min (2 ^ 63 - 1) (Jvm.FP.Core.truncate s c q))) = _
          rw [hy, show max (-2 ^ 63) (min (2 ^ 63 - 1) y) = y by omega]
        unfold fl_g
        rw [hyi]
        by_cases hx0 : v.toInt = 0
        · rw [hx0] at hd
          have : Jvm.FP.Core.round f (Jvm.FP.Core.ofInt 0) = .fin false 0 f.qmin := rfl
          rw [this] at hd
          injection hd with e1 e2 e3
          subst e1; subst e2
          have hy0 : y = 0 := by rw [← hy]; unfold Jvm.FP.Core.truncate Jvm.FP.Core.signed; simp
          rw [hy0]; exact h0
        · have hdr : Jvm.FP.Core.roundRatio f (decide (v.toInt < 0)) v.toInt.natAbs 1 0 = .fin s c q := hd
          by_cases hq : q ≤ 0
          · have hyx := fl_low hf (by omega) hq hdr
            rw [hy] at hyx
            have : y = v.toInt := by
              rw [hyx]; unfold Jvm.FP.Core.signed
              by_cases hn : v.toInt < 0
              · rw [if_pos (by simpa using hn)]; omega
              · rw [if_neg (by simpa using hn)]; omega
            rw [this, hd, hback, this]
          · by_cases hc : c = 0
            · subst hc
              have hy0 : y = 0 := by rw [← hy]; unfold Jvm.FP.Core.truncate Jvm.FP.Core.signed; simp
              rw [hy0]; exact h0
            · have hpos : 0 < c * 2 ^ q.toNat := Nat.mul_pos (by omega) (Nat.two_pow_pos _)
              have hyv : y = Jvm.FP.Core.signed s (c * 2 ^ q.toNat) := by
                rw [← hy]; unfold Jvm.FP.Core.truncate
                rw [show (-q).toNat = 0 by omega, Nat.pow_zero, Nat.div_one]
              have hr : Jvm.FP.Core.round f (Jvm.FP.Core.ofInt y) = .fin s c q := by
                have e1 : y.natAbs = c * 2 ^ q.toNat := by
                  rw [hyv]; unfold Jvm.FP.Core.signed; split <;> omega
                have e2 : decide (y < 0) = s := by
                  rw [hyv]; unfold Jvm.FP.Core.signed
                  generalize c * 2 ^ q.toNat = M at hpos
                  cases s
                  · rw [if_neg (by decide)]; exact decide_eq_false (by omega)
                  · rw [if_pos rfl]; exact decide_eq_true (by omega)
                show Jvm.FP.Core.roundRatio f (decide (y < 0)) y.natAbs 1 0 = _
                rw [e1, e2]
                refine Jvm.FP.Core.roundRatio_exact hf (by decide) hfit ?_
                rw [show (0 - q).toNat = 0 by omega, show (q - 0).toNat = q.toNat by omega]; simp
              rw [hr]; exact hback
theorem fl_32 (v : Int64) : FP.f2l (FP.l2f v) = fl_g Jvm.FP.Core.b32 v := by
  show Jvm.FP.Core.toL (Jvm.FP.Core.val32 (Jvm.FP.Core.l2f v)) = _
  rw [Jvm.FP.Core.val32_l2f]; rfl
theorem fl_64 (v : Int64) : FP.d2l (FP.l2d v) = fl_g Jvm.FP.Core.b64 v := by
  show Jvm.FP.Core.toL (Jvm.FP.Core.val64 (Jvm.FP.Core.l2d v)) = _
  rw [Jvm.FP.Core.val64_l2d]; rfl
theorem fl_i32 (v : Int64) : FP.f2l (FP.l2f (FP.f2l (FP.l2f v))) = FP.f2l (FP.l2f v) := by
  rw [fl_32, fl_32]
  exact fl_toL Jvm.FP.Core.good_b32 (by decide +kernel) (by decide +kernel) (by decide +kernel) v
theorem fl_i64 (v : Int64) : FP.d2l (FP.l2d (FP.d2l (FP.l2d v))) = FP.d2l (FP.l2d v) := by
  rw [fl_64, fl_64]
  exact fl_toL Jvm.FP.Core.good_b64 (by decide +kernel) (by decide +kernel) (by decide +kernel) v
theorem as_idem {b : Nat} (hb : b < 8) (v : Int64) : s_as (nI b) (s_as (nI b) v) = s_as (nI b) v := by
  match b, hb with
  | 0, _ =>
    show (if (if v = 0 then (0 : Int64) else 1) = 0 then (0 : Int64) else 1) = (if v = 0 then 0 else 1)
    by_cases h : v = 0
    · rw [if_pos h]; rfl
    · rw [if_neg h]; rfl
  | 1, _ =>
    show v.toInt32.toInt8.toInt32.toInt64.toInt32.toInt8.toInt32.toInt64 = v.toInt32.toInt8.toInt32.toInt64
    simp
  | 2, _ =>
    show ((v.toInt32.toUInt32 % 65536).toInt32.toInt64.toInt32.toUInt32 % 65536).toInt32.toInt64 = (v.toInt32.toUInt32 % 65536).toInt32.toInt64
    rw [Int32.toInt32_toInt64, pk_char, pk_char, pk_tn (by omega), Nat.mod_mod]
  | 3, _ =>
    show v.toInt32.toInt16.toInt32.toInt64.toInt32.toInt16.toInt32.toInt64 = v.toInt32.toInt16.toInt32.toInt64
    simp
  | 4, _ =>
    show v.toInt32.toInt64.toInt32.toInt64 = v.toInt32.toInt64
    simp
  | 5, _ => rfl
  | 6, _ => exact fl_i32 v
  | 7, _ => exact fl_i64 v
