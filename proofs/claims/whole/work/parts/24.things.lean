/-! the class's methods on a thing, by the reference's words for it -/
theorem adr_0 (ra pa : Nat → Nat) (w : Int32) : adr ra pa 0 w = none := rfl
theorem adr_1 (ra pa : Nat → Nat) (w : Int32) : adr ra pa 1 w = none := rfl
theorem adr_2 (ra pa : Nat → Nat) {p : Nat} (hp : p < 2 ^ 31) : adr ra pa 2 (nI p) = some (pa p) := by
  unfold adr; rw [if_pos rfl, nI_clamp hp]
theorem adr_3 (ra pa : Nat → Nat) {q : Nat} (hq : q < 2 ^ 31) : adr ra pa 3 (nI q) = some (ra q) := by
  unfold adr; rw [if_neg (by decide), if_pos rfl, nI_clamp hq]
section THG
variable {G : zh_G} {l : Launch} {f : Nat → va_E} {nn : Nat} {σ : sg} {R P N D : Nat} {ra pa : Nat → Nat}
theorem iv_sz (hi : iv σ R P N D) : ∀ q : Nat, q < R → (σ.2.2.1 10 q).toNatClampNeg ≤ 16 := by
  intro q hq
  obtain ⟨-, ⟨s, hs, e⟩, -⟩ := hi.2.2.2.2.2.2.1 q hq
  rw [e, nI_clamp (by omega)]; exact hs
/-- row q as the low rows want it: of numbers -/
theorem vwN (h : cP G f nn σ R P ra pa) (hi : iv σ R P N D) {q : Nat} (hq : q < R) (hK : σ.2.2.1 9 q < 8) : ∃ (s : Nat) (num : Nat → Int64), s ≤ 16 ∧ σ.2.2.1 10 q = nI s ∧ f (ra q) = .inr (1, [.int (σ.2.2.1 9 q), .int (nI s), .ref (ra q + 1)]) ∧ f (ra q + 1) = .inl (zg_c G 1, s, .inr (.inl num)) ∧ (zg_B G ≤ ra q ∧ ra q < nn ∧ zg_B G ≤ ra q + 1 ∧ ra q + 1 < nn) ∧ (∀ j : Nat, j < s → num j = σ.2.2.2 (16 * q + j)) ∧ zg_B G + 28 ≤ ra q := by
  obtain ⟨-, ⟨s, hs, e⟩, -⟩ := hi.2.2.2.2.2.2.1 q hq
  have hr := h.2.2.2.2.2.2.2.2.1 q hq
  obtain ⟨a, num, b, c⟩ := hr.2.1 hK
  rw [e, nI_clamp (by omega)] at b c
  rw [e] at a
  have := hr.1
  exact ⟨s, num, hs, e, a, b, ⟨by omega, by omega, by omega, by omega⟩, c, this.1⟩
theorem vwT (h : cP G f nn σ R P ra pa) (hi : iv σ R P N D) {q : Nat} (hq : q < R) (hK : ¬ σ.2.2.1 9 q < 8) : ∃ (s : Nat) (thg : Nat → Option Nat), s ≤ 16 ∧ σ.2.2.1 10 q = nI s ∧ f (ra q) = .inr (4, [.int (σ.2.2.1 9 q), .int (nI s), .ref (ra q + 1)]) ∧ f (ra q + 1) = .inl (zg_c G 3, s, .inr (.inr (.inr (.inr thg)))) ∧ (zg_B G ≤ ra q ∧ ra q < nn ∧ zg_B G ≤ ra q + 1 ∧ ra q + 1 < nn) ∧ (∀ j : Nat, j < s → thg j = adp ra pa (σ.2.2.1 9 q) (σ.2.2.2 (16 * q + j))) ∧ zg_B G + 28 ≤ ra q := by
  obtain ⟨-, ⟨s, hs, e⟩, -⟩ := hi.2.2.2.2.2.2.1 q hq
  have hr := h.2.2.2.2.2.2.2.2.1 q hq
  obtain ⟨a, num, b, c⟩ := hr.2.2 hK
  rw [e, nI_clamp (by omega)] at b c
  rw [e] at a
  have := hr.1
  exact ⟨s, num, hs, e, a, b, ⟨by omega, by omega, by omega, by omega⟩, c, this.1⟩
theorem vwP (h : cP G f nn σ R P ra pa) {p : Nat} (h1 : 1 ≤ p) (h2 : p ≤ P) : f (pa p) = .inr (2, [.int (nI p), .int (σ.2.2.1 7 p)]) ∧ zg_B G ≤ pa p ∧ pa p < nn ∧ zg_B G + 28 ≤ pa p := by
  have hr := h.2.2.2.2.2.2.2.2.2.1 p h1 h2
  have := hr.1
  exact ⟨hr.2, by omega, by omega, this.1⟩
theorem xk {q : Nat} (hq : q < 5000) : xK σ (nI q) = σ.2.2.1 9 q := by unfold xK; rw [nI_clamp (by omega)]
theorem xs {q : Nat} (hq : q < 5000) : xS σ (nI q) = σ.2.2.1 10 q := by unfold xS; rw [nI_clamp (by omega)]
theorem xf {q : Nat} (hq : q < 5000) : xF σ (nI q) = σ.2.2.1 7 q := by unfold xF; rw [nI_clamp (by omega)]
theorem xp {q j : Nat} (hq : q < 5000) (hj : j < 16) : xP σ (nI q) (nI j) = σ.2.2.2 (16 * q + j) := by unfold xP; rw [ix16 hq hj]
theorem gF_0 (w i : Int32) : s_gF σ 0 w i = 1 := rfl
theorem gF_2 (w i : Int32) : s_gF σ 2 w i = 2 := rfl
theorem gF_3 (w i : Int32) : s_gF σ 3 w i = if s_out i (xS σ w) = true then 3 else 0 := rfl
/-- fault of a thing that is no row -/
theorem u_rowF (h : cP G f nn σ R P ra pa) (hi : iv σ R P N D) {t w : Int32} (ht : tw R P t w) : zc G l yX7_rowFault cX7_rowFault 1 (some .int) 0 [va_rf (adr ra pa t w)] (f, nn) 0 0 (fun o h' => o = some (.int (if t = 0 then 1 else if ¬ t = 3 then 2 else 0)) ∧ h' = (f, nn)) := by
  rcases ht with rfl | ⟨rfl, p, hp1, hp2, rfl⟩ | ⟨rfl, q, hq, rfl⟩
  · exact cX_rowF0
  · have := hi.2.1.2
    rw [adr_2 ra pa (by omega)]
    obtain ⟨e, b1, b2, -⟩ := vwP h hp1 hp2
    exact cX_rowFP e b1 b2
  · have := hi.1.2
    rw [adr_3 ra pa (by omega)]
    by_cases hK : σ.2.2.1 9 q < 8
    · obtain ⟨s, num, hs, -, e, e2, ⟨b1, b2, b3, b4⟩, -⟩ := vwN h hi hq hK
      exact cX_rowFN e e2 b1 b2 b3 b4 hs
    · obtain ⟨s, num, hs, -, e, e2, ⟨b1, b2, b3, b4⟩, -⟩ := vwT h hi hq hK
      exact cX_rowFT e e2 b1 b2 b3 b4 hs
theorem u_plc (h : cP G f nn σ R P ra pa) (hi : iv σ R P N D) {t w : Int32} (ht : tw R P t w) : zc G l yX7_placesOf cX7_placesOf 2 (some .int) 0 [va_rf (adr ra pa t w)] (f, nn) 0 0 (fun o h' => o = some (.int (if t = 3 then xS σ w else 0)) ∧ h' = (f, nn)) := by
  rcases ht with rfl | ⟨rfl, p, hp1, hp2, rfl⟩ | ⟨rfl, q, hq, rfl⟩
  · exact cX_plc0
  · have := hi.2.1.2
    rw [adr_2 ra pa (by omega)]
    obtain ⟨e, b1, b2, -⟩ := vwP h hp1 hp2
    exact cX_plcP e b1 b2
  · have := hi.1.2
    rw [adr_3 ra pa (by omega), if_pos rfl, xs (by omega)]
    by_cases hK : σ.2.2.1 9 q < 8
    · obtain ⟨s, num, hs, es, e, e2, ⟨b1, b2, b3, b4⟩, -⟩ := vwN h hi hq hK
      rw [es]; exact cX_plcN e e2 b1 b2 b3 b4 hs
    · obtain ⟨s, num, hs, es, e, e2, ⟨b1, b2, b3, b4⟩, -⟩ := vwT h hi hq hK
      rw [es]; exact cX_plcT e e2 b1 b2 b3 b4 hs
theorem u_plF (h : cP G f nn σ R P ra pa) (hi : iv σ R P N D) {t w i : Int32} (ht : tw R P t w) : zc G l yX7_placeFault cX7_placeFault 3 (some .int) 1 [va_rf (adr ra pa t w), .int i] (f, nn) 0 0 (fun o h' => o = some (.int (s_gF σ t w i)) ∧ h' = (f, nn)) := by
  rcases ht with rfl | ⟨rfl, p, hp1, hp2, rfl⟩ | ⟨rfl, q, hq, rfl⟩
  · exact cX_plF0
  · have := hi.2.1.2
    rw [adr_2 ra pa (by omega)]
    obtain ⟨e, b1, b2, -⟩ := vwP h hp1 hp2
    exact cX_plFP e b1 b2
  · have := hi.1.2
    rw [adr_3 ra pa (by omega), gF_3, xs (by omega)]
    by_cases hK : σ.2.2.1 9 q < 8
    · obtain ⟨s, num, hs, es, e, e2, ⟨b1, b2, b3, b4⟩, -⟩ := vwN h hi hq hK
      rw [es, co_out i hs]
      by_cases hco : co i (nI s) = true
      · rw [if_pos hco]; exact cX_plFNo e e2 b1 b2 b3 b4 hs hco
      · rw [if_neg hco]; exact cX_plFNi e e2 b1 b2 b3 b4 hs (by simpa using hco)
    · obtain ⟨s, num, hs, es, e, e2, ⟨b1, b2, b3, b4⟩, -⟩ := vwT h hi hq hK
      rw [es, co_out i hs]
      by_cases hco : co i (nI s) = true
      · rw [if_pos hco]; exact cX_plFTo e e2 b1 b2 b3 b4 hs hco
      · rw [if_neg hco]; exact cX_plFTi e e2 b1 b2 b3 b4 hs (by simpa using hco)
theorem lN_nI {p : Nat} : (lN p).toInt32 = nI p := lN_i p
theorem adp_0 (K : Int32) : adp ra pa K 0 = none := rfl
theorem lN_ne0 {p : Nat} (h1 : 1 ≤ p) (h2 : p < 2 ^ 31) : ¬ lN p = 0 := by
  rw [show (0 : Int64) = lN 0 from rfl, lN_eq h2 (by decide)]; omega
theorem adp_p {K : Int32} {p : Nat} (hK : ¬ K = 10) (h1 : 1 ≤ p) (h2 : p < 2 ^ 31) : adp ra pa K (lN p) = some (pa p) := by
  unfold adp; rw [if_neg (lN_ne0 h1 h2), if_neg hK, lN_nI, nI_clamp h2]
theorem lN_pred {q : Nat} : lN (q + 1) - 1 = lN q := by
  rw [show (1 : Int64) = lN 1 from rfl, lN_sub (by omega)]; rfl
theorem adp_q {q : Nat} (h2 : q + 1 < 2 ^ 31) : adp ra pa 10 (lN (q + 1)) = some (ra q) := by
  unfold adp; rw [if_neg (lN_ne0 (by omega) h2), if_pos rfl, lN_pred, lN_nI, nI_clamp (by omega)]
/-- getPlace into a Held at c (the gauge or the hand) -/
theorem u_get (h : cP G f nn σ R P ra pa) (hi : iv σ R P N D) {t w i : Int32} (ht : tw R P t w) {c : Nat} {k0 a0 t0 : Value} (hc : f c = .inr (0, [k0, a0, t0])) (hc1 : zg_B G ≤ c) (hc2 : c < zg_B G + 28) : zc G l yX7_getPlace cX7_getPlace 6 (some .int) 2 [va_rf (adr ra pa t w), .int i, .ref c] (f, nn) 0 0 (fun o h' => o = some (.int (s_gF σ t w i)) ∧ h' = (if s_gF σ t w i = 0 then va_up f c (hcell ra pa (s_gets σ w i)) else f, nn)) := by
  have hcn : c < nn := by have := h.1; omega
  rcases ht with rfl | ⟨rfl, p, hp1, hp2, rfl⟩ | ⟨rfl, q, hq, rfl⟩
  · exact cX_get0 hc hc1 hcn
  · have := hi.2.1.2
    rw [adr_2 ra pa (by omega)]
    obtain ⟨e, b1, b2, -⟩ := vwP h hp1 hp2
    exact cX_getP hc hc1 hcn e b1 b2
  · have hR := hi.1.2
    rw [adr_3 ra pa (by omega), gF_3, xs (by omega)]
    obtain ⟨hk10, -, hpv⟩ := hi.2.2.2.2.2.2.1 q hq
    by_cases hK : σ.2.2.1 9 q < 8
    · obtain ⟨s, num, hs, es, e, e2, ⟨b1, b2, b3, b4⟩, hnum, -⟩ := vwN h hi hq hK
      rw [es, co_out i hs]
      by_cases hco : co i (nI s) = true
      · rw [if_pos hco]; exact cX_getNo hc hc1 hcn e e2 b1 b2 b3 b4 hs hco
      · have hcf : co i (nI s) = false := by simpa using hco
        obtain ⟨j, hj, rfl⟩ := vp_in_of (co_in hs hcf) (by omega)
        rw [if_neg hco, if_pos rfl]
        have hz : hcell ra pa (s_gets σ (nI q) (nI j)) = .inr (0, [.int (σ.2.2.1 9 q), .long (s_as (σ.2.2.1 9 q) (num (nI j).toNatClampNeg)), .null]) := by
          rw [nI_clamp (by omega), hnum j hj, (hpv j (by omega)).1 hK]
          unfold s_gets
          rw [xk (by omega), if_pos hK, xp (by omega) (by omega)]
          rfl
        rw [hz]; exact cX_getNi hc hc1 hcn e e2 b1 b2 b3 b4 hs hcf
    · obtain ⟨s, thg, hs, es, e, e2, ⟨b1, b2, b3, b4⟩, hthg, -⟩ := vwT h hi hq hK
      rw [es, co_out i hs]
      by_cases hco : co i (nI s) = true
      · rw [if_pos hco]; exact cX_getTo hc hc1 hcn e e2 b1 b2 b3 b4 hs hco
      · have hcf : co i (nI s) = false := by simpa using hco
        obtain ⟨j, hj, rfl⟩ := vp_in_of (co_in hs hcf) (by omega)
        rw [if_neg hco, if_pos rfl]
        have ht0 := hthg j hj
        rw [← show (nI j).toNatClampNeg = j from nI_clamp (by omega)] at ht0
        have hsg : s_gets σ (nI q) (nI j) = si (si σ 2 (if σ.2.2.2 (16 * q + j) = 0 then 0 else if σ.2.2.1 9 q = 10 then 3 else 2)) 5 (if σ.2.2.1 9 q = 10 then σ.2.2.2 (16 * q + j) - 1 else σ.2.2.2 (16 * q + j)).toInt32 := by
          unfold s_gets
          rw [xk (by omega), if_neg hK, xp (by omega) (by omega)]
        rw [hsg]
        rw [nI_clamp (show j < 2 ^ 31 by omega)] at ht0
        rcases (hpv j (by omega)).2 hK with hv | ⟨hk, p, hp1, hp2, hv, -⟩ | ⟨hk, q2, hq2, hv, h4⟩
        · rw [hv] at ht0 ⊢
          rw [if_pos rfl]
          refine (?_ : zc G l _ _ _ _ _ _ _ _ _ (fun o h' => o = some (.int 0) ∧ h' = (va_up f c (.inr (0, [.int (-9), .long 0, .null])), nn)))
          exact cX_getTi0 hc hc1 hcn e e2 b1 b2 b3 b4 hs hcf (by rw [nI_clamp (by omega)]; exact ht0)
        · have hP := hi.2.1.2
          rw [hv] at ht0 ⊢
          rw [adp_p hk hp1 (by omega)] at ht0
          rw [if_neg (lN_ne0 hp1 (by omega)), if_neg hk, if_neg hk, lN_nI]
          obtain ⟨g1, g2, g3, g4⟩ := vwP h hp1 hp2
          have hz : hcell ra pa (si (si σ 2 2) 5 (nI p)) = .inr (0, [.int (if σ.2.2.1 7 p = 0 then 8 else 9), .long (nI p).toInt64, .ref (pa p)]) := by
            unfold hcell
            rw [show (si (si σ 2 2) 5 (nI p)).1 2 = 2 from rfl, show (si (si σ 2 2) 5 (nI p)).1 5 = nI p from rfl, adr_2 ra pa (by omega)]
            have e1 : s_has (si (si σ 2 2) 5 (nI p)) = if σ.2.2.1 7 p = 0 then 8 else 9 := by
              show (if xF σ (nI p) = 0 then (8 : Int32) else 9) = _
              rw [xf (by omega)]
            rw [e1]; rfl
          rw [hz]
          exact cX_getTiP hc hc1 hcn e e2 b1 b2 b3 b4 hs hcf (by rw [nI_clamp (by omega)]; exact ht0) g1 g2 g3 (by omega)
        · rw [hv] at ht0 ⊢
          rw [hk] at ht0 ⊢
          rw [adp_q (by omega)] at ht0
          rw [if_neg (lN_ne0 (by omega) (by omega)), if_pos rfl, if_pos rfl, lN_pred, lN_nI]
          obtain ⟨s2, num2, hs2, es2, g1, -, ⟨g2, g3, -, -⟩, -, g4⟩ := vwN h hi hq2 (by rw [h4]; decide)
          have hz : hcell ra pa (si (si σ 2 3) 5 (nI q2)) = .inr (0, [.int 10, .long (nI s2).toInt64, .ref (ra q2)]) := by
            unfold hcell
            rw [show (si (si σ 2 3) 5 (nI q2)).1 2 = 3 from rfl, show (si (si σ 2 3) 5 (nI q2)).1 5 = nI q2 from rfl, adr_3 ra pa (by omega)]
            have e1 : s_val (si (si σ 2 3) 5 (nI q2)) = (nI s2).toInt64 := by
              show (xS σ (nI q2)).toInt64 = _
              rw [xs (by omega), es2]
            rw [e1]; rfl
          rw [hz]
          rw [hk] at e
          exact cX_getTiN hc hc1 hcn e e2 b1 b2 b3 b4 hs hcf (by rw [nI_clamp (by omega)]; exact ht0) g1 g2 g3 (by omega)
end THG
