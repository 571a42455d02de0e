theorem gi_tab : ∀ a, a < 11 → ∀ b, b < 11 → gi (nI a) (nI b) = (if a < 8 ∧ b < 8 then s_goes (nI a) (nI b) else decide ((a = 8 ∧ b = 8) ∨ (a = 9 ∧ (b = 8 ∨ b = 9)) ∨ (a = 10 ∧ b = 10))) := by decide +kernel
theorem gi_n {a b : Nat} (ha : a < 8) (hb : b < 8) : gi (nI a) (nI b) = s_goes (nI a) (nI b) := by
  rw [gi_tab a (by omega) b (by omega), if_pos ⟨ha, hb⟩]
theorem gi_o {a b : Nat} (ha : a < 11) (hb : b < 11) (h : ¬ (a < 8 ∧ b < 8)) : gi (nI a) (nI b) = decide ((a = 8 ∧ b = 8) ∨ (a = 9 ∧ (b = 8 ∨ b = 9)) ∨ (a = 10 ∧ b = 10)) := by
  rw [gi_tab a (by omega) b (by omega), if_neg h]
theorem nI_lt8 {k : Nat} (hk : k ≤ 10) : nI k < 8 ↔ k < 8 := by
  rw [show (8 : Int32) = nI 8 from rfl, nI_ltI (by omega) (by decide)]
theorem s_bits_cg {p p' : Nat → Bool} : ∀ (m k : Nat) (acc : Int32), (∀ j, k ≤ j → j < k + m → p j = p' j) → s_bits p m k acc = s_bits p' m k acc := by
  intro m
  induction m with
  | zero => intro k acc _; rfl
  | succ m ih =>
    intro k acc h
    show s_bits p m (k + 1) (acc ||| (if p k = true then _ else 0)) = s_bits p' m (k + 1) (acc ||| (if p' k = true then _ else 0))
    rw [h k (Nat.le_refl k) (by omega)]
    exact ih (k + 1) _ (fun j h1 h2 => h j (by omega) (by omega))
/-- setPlace's fault, of a thing (t, w) -/
def s_sFt (σ : sg) (t w i : Int32) : Int32 := if ¬ t = 3 then (if t = 0 then 1 else 2) else if xK σ w < 8 ∧ σ.1 2 = 0 then 2 else if s_out i (xS σ w) = true then 3 else if s_unfit σ w = true then 2 else 0
theorem sFt_eq (σ : sg) (r i : Int32) : s_sF σ r i = s_sFt σ (xT σ r) (xW σ r) i := rfl
section THG2
variable {G : zh_G} {l : Launch} {f : Nat → va_E} {nn : Nat} {σ : sg} {R P N D : Nat} {ra pa : Nat → Nat}
theorem rF_3 (w i to : Int32) : s_rF σ 3 w i to = if ¬ xK σ w < 8 then 2 else if s_out i (xS σ w) = true then 3 else if s_goes (xK σ w) to = true then 0 else 2 := rfl
theorem wF_3 (w i to : Int32) : s_wF σ 3 w i to = if ¬ xK σ w < 8 then 2 else if s_out i (xS σ w) = true then 3 else if s_goes to (xK σ w) = true then 0 else 2 := rfl
theorem u_read (h : cP G f nn σ R P ra pa) (hi : iv σ R P N D) {t w i : Int32} (ht : tw R P t w) {b : Nat} (hb : b < 8) {c : Nat} {k0 a0 t0 : Value} (hc : f c = .inr (0, [k0, a0, t0])) (hc1 : zg_B G ≤ c) (hc2 : c < zg_B G + 28) : zc G l yX7_readPlace cX7_readPlace 5 (some .int) 2 [va_rf (adr ra pa t w), .int i, .int (nI b), .ref c] (f, nn) 0 0 (fun o h' => o = some (.int (s_rF σ t w i (nI b))) ∧ h' = (if s_rF σ t w i (nI b) = 0 then va_up f c (.inr (0, [.int (nI b), .long (s_as (nI b) (xP σ w i)), .null])) else f, nn)) := by
  have hcn : c < nn := by have := h.1; omega
  rcases ht with rfl | ⟨rfl, p, hp1, hp2, rfl⟩ | ⟨rfl, q, hq, rfl⟩
  · exact cX_rd0 hc hc1 hcn
  · have := hi.2.1.2
    rw [adr_2 ra pa (by omega)]
    obtain ⟨e, b1, b2, -⟩ := vwP h hp1 hp2
    exact cX_rdP hc hc1 hcn e b1 b2
  · have hR := hi.1.2
    obtain ⟨⟨k, hk10, ek⟩, -, hpv⟩ := hi.2.2.2.2.2.2.1 q hq
    rw [adr_3 ra pa (by omega), rF_3, xs (by omega), xk (by omega)]
    by_cases hK : σ.2.2.1 9 q < 8
    · obtain ⟨s, num, hs, es, e, e2, ⟨b1, b2, b3, b4⟩, hnum, -⟩ := vwN h hi hq hK
      rw [if_neg (fun z => z hK), es, co_out i hs]
      by_cases hco : co i (nI s) = true
      · rw [if_pos hco]; exact cX_rdNo hc hc1 hcn e e2 b1 b2 b3 b4 hs hco
      · have hcf : co i (nI s) = false := by simpa using hco
        obtain ⟨j, hj, rfl⟩ := vp_in_of (co_in hs hcf) (by omega)
        rw [if_neg hco]
        have hk8 : k < 8 := by rw [ek] at hK; exact (nI_lt8 hk10).mp hK
        have hgi : gi (σ.2.2.1 9 q) (nI b) = s_goes (σ.2.2.1 9 q) (nI b) := by rw [ek]; exact gi_n hk8 hb
        by_cases hg : s_goes (σ.2.2.1 9 q) (nI b) = true
        · rw [if_pos hg, if_pos rfl, xp (by omega) (by omega), ← hnum j hj, ← show (nI j).toNatClampNeg = j from nI_clamp (by omega)]
          rw [show nI ((nI j).toNatClampNeg) = nI j by rw [nI_clamp (by omega)]]
          exact cX_rdNy hc hc1 hcn e e2 b1 b2 b3 b4 hs hcf (hgi.trans hg)
        · rw [if_neg hg]
          exact cX_rdNb hc hc1 hcn e e2 b1 b2 b3 b4 hs hcf (by rw [hgi]; simpa using hg)
    · obtain ⟨s, num, hs, es, e, e2, ⟨b1, b2, b3, b4⟩, hnum, -⟩ := vwT h hi hq hK
      rw [if_pos hK]
      exact cX_rdT hc hc1 hcn e e2 b1 b2 b3 b4 hs
theorem cN_same (h : cP G f nn σ R P ra pa) {v : Option Value} : cN G f nn σ R P ra pa v v (f, nn) := ⟨rfl, rfl, h, fun _ _ _ => rfl⟩
theorem zc_same (h : cP G f nn σ R P ra pa) {y : MethodName} {cc : ByteArray} {n : Nat} {r : Option FieldType} {d : Nat} {av : List Value} {mc ms0 : Nat} {v : Option Value} (hz : zc G l y cc n r d av (f, nn) mc ms0 (fun o h' => o = v ∧ h' = (f, nn))) : zc G l y cc n r d av (f, nn) mc ms0 (cN G f nn σ R P ra pa v) :=
  zc.weaken (fun o h' q => by obtain ⟨rfl, rfl⟩ := q; exact cN_same h) hz
theorem zc_put {σ2 : sg} {x : Nat} {e : va_E} {f : Nat → va_E} (h2 : cP G (va_up f x e) nn σ2 R P ra pa) (hx : x < zg_B G + 18 ∨ zg_B G + 28 ≤ x) {y : MethodName} {cc : ByteArray} {n : Nat} {r : Option FieldType} {d : Nat} {av : List Value} {mc ms0 : Nat} {v : Option Value} (hz : zc G l y cc n r d av (f, nn) mc ms0 (fun o h' => o = v ∧ h' = (va_up f x e, nn))) : zc G l y cc n r d av (f, nn) mc ms0 (cN G f nn σ2 R P ra pa v) :=
  zc.weaken (fun o h' q => by obtain ⟨rfl, rfl⟩ := q; exact ⟨rfl, rfl, h2, fun a h1 h2 => vne (by omega)⟩) hz
theorem u_write (h : cP G f nn σ R P ra pa) (hi : iv σ R P N D) {t w i : Int32} (ht : tw R P t w) {b : Nat} (hb : b < 8) {v : Int64} : zc G l yX7_writePlace cX7_writePlace 6 (some .int) 1 [va_rf (adr ra pa t w), .int i, .int (nI b), .long v] (f, nn) 0 0 (cN G f nn (s_writeS σ t w i (nI b) v) R P ra pa (some (.int (s_wF σ t w i (nI b))))) := by
  unfold s_writeS
  rcases ht with rfl | ⟨rfl, p, hp1, hp2, rfl⟩ | ⟨rfl, q, hq, rfl⟩
  · exact zc_same h cX_wr0
  · have := hi.2.1.2
    rw [adr_2 ra pa (by omega)]
    obtain ⟨e, b1, b2, -⟩ := vwP h hp1 hp2
    exact zc_same h (cX_wrP e b1 b2)
  · have hR := hi.1.2
    obtain ⟨⟨k, hk10, ek⟩, -, hpv⟩ := hi.2.2.2.2.2.2.1 q hq
    rw [adr_3 ra pa (by omega)]
    by_cases hK : σ.2.2.1 9 q < 8
    · obtain ⟨s, num, hs, es, e, e2, ⟨b1, b2, b3, b4⟩, hnum, hlo⟩ := vwN h hi hq hK
      have base : s_wF σ 3 (nI q) i (nI b) = if co i (nI s) = true then 3 else if s_goes (nI b) (σ.2.2.1 9 q) = true then 0 else 2 := by
        rw [wF_3, xs (by omega), xk (by omega), if_neg (fun z => z hK), es, co_out i hs]
      by_cases hco : co i (nI s) = true
      · rw [if_pos hco] at base
        rw [base]; exact zc_same h (cX_wrNo e e2 b1 b2 b3 b4 hs hco)
      · have hcf : co i (nI s) = false := by simpa using hco
        obtain ⟨j, hj, rfl⟩ := vp_in_of (co_in hs hcf) (by omega)
        rw [if_neg hco] at base
        have hk8 : k < 8 := by rw [ek] at hK; exact (nI_lt8 hk10).mp hK
        have hgi : gi (nI b) (σ.2.2.1 9 q) = s_goes (nI b) (σ.2.2.1 9 q) := by rw [ek]; exact gi_n hb hk8
        by_cases hg : s_goes (nI b) (σ.2.2.1 9 q) = true
        · rw [if_pos hg] at base
          rw [base, if_pos rfl, xk (by omega), ix16 (by omega) (by omega)]
          have hz := cP_num h hq hK (j := j) (by rw [es, nI_clamp (by omega)]; exact hj) (iv_sz hi) (num := num) (by rw [es, nI_clamp (by omega)]; exact e2) (s_as (σ.2.2.1 9 q) (s_as (nI b) v))
          rw [es, nI_clamp (show s < 2 ^ 31 by omega)] at hz
          refine zc_put hz (by omega) ?_
          have := cX_wrNy (l := l) (v := v) e e2 b1 b2 b3 b4 hs hcf (hgi.trans hg)
          rw [nI_clamp (show j < 2 ^ 31 by omega)] at this
          exact this
        · rw [if_neg hg] at base
          rw [base]
          exact zc_same h (cX_wrNb e e2 b1 b2 b3 b4 hs hcf (by rw [hgi]; simpa using hg))
    · obtain ⟨s, num, hs, es, e, e2, ⟨b1, b2, b3, b4⟩, hnum, -⟩ := vwT h hi hq hK
      have base : s_wF σ 3 (nI q) i (nI b) = 2 := by rw [wF_3, xk (by omega), if_pos hK]
      rw [base]
      exact zc_same h (cX_wrT e e2 b1 b2 b3 b4 hs)
theorem uf_num {σh : sg} {w : Int32} (hK : xK σh w < 8) : s_unfit σh w = (decide (¬ σh.1 2 = 1) || !(s_goes (σh.1 3) (xK σh w))) := by unfold s_unfit; rw [if_pos hK]
theorem uf_thg {σh : sg} {w : Int32} (hK : ¬ xK σh w < 8) : s_unfit σh w = decide (σh.1 2 = 1 ∨ (σh.1 2 = 2 ∧ (xK σh w = 10 ∨ (xK σh w = 9 ∧ xF σh (σh.1 5) = 0))) ∨ (σh.1 2 = 3 ∧ ¬ xK σh w = 10)) := by unfold s_unfit; rw [if_neg hK]
theorem has_0 {σh : sg} (h : σh.1 2 = 0) : s_has σh = -9 := by unfold s_has; rw [if_pos h]
theorem has_1 {σh : sg} (h : σh.1 2 = 1) : s_has σh = σh.1 3 := by unfold s_has; rw [if_neg (by rw [h]; decide), if_pos h]
theorem has_3 {σh : sg} (h : σh.1 2 = 3) : s_has σh = 10 := by unfold s_has; rw [if_neg (by rw [h]; decide), if_neg (by rw [h]; decide), if_pos h]
theorem has_2 {σh : sg} (h : σh.1 2 = 2) : s_has σh = if xF σh (σh.1 5) = 0 then 8 else 9 := by unfold s_has; rw [if_neg (by rw [h]; decide), if_neg (by rw [h]; decide), if_neg (by rw [h]; decide)]
theorem nI_ne9 {k : Nat} (hk : k ≤ 10) : ¬ nI k = -9 := by
  intro e
  have := congrArg Int32.toInt e
  rw [nI_toInt (by omega), show (-9 : Int32).toInt = -9 from by decide] at this
  omega
theorem nI10 {k : Nat} (hk : k ≤ 10) : nI k = 10 ↔ k = 10 := by rw [show (10 : Int32) = nI 10 from rfl, nI_eq (by omega) (by decide)]
theorem nI9 {k : Nat} (hk : k ≤ 10) : nI k = 9 ↔ k = 9 := by rw [show (9 : Int32) = nI 9 from rfl, nI_eq (by omega) (by decide)]
/-- setPlace of what a Held at c has: c pictures σh, whose rows are σ's -/
theorem u_set (h : cP G f nn σ R P ra pa) (hi : iv σ R P N D) {t w i : Int32} (ht : tw R P t w) {c : Nat} {σh : sg} (hA : σh.2.2 = σ.2.2) (hg : gv σ.2.2.1 R P (σh.1 2) (σh.1 3) σh.2.1 (σh.1 5)) (hc : f c = hcell ra pa σh) (hc1 : zg_B G ≤ c) (hc2 : c < zg_B G + 28) : zc G l yX7_setPlace cX7_setPlace 4 (some .int) 3 [va_rf (adr ra pa t w), .int i, .ref c] (f, nn) 0 0 (cN G f nn (if s_sFt σh t w i = 0 then sp σ (16 * w + i).toNatClampNeg (s_setV σh w) else σ) R P ra pa (some (.int (s_sFt σh t w i)))) := by
  have hcn : c < nn := by have := h.1; omega
  have hA1 : σh.2.2.1 = σ.2.2.1 := by rw [hA]
  rcases ht with rfl | ⟨rfl, p, hp1, hp2, rfl⟩ | ⟨rfl, q, hq, rfl⟩
  · exact zc_same h (cX_st0 hc hc1 hcn)
  · have := hi.2.1.2
    rw [adr_2 ra pa (by omega)]
    obtain ⟨e, b1, b2, -⟩ := vwP h hp1 hp2
    exact zc_same h (cX_stP hc hc1 hcn e b1 b2)
  · have hR := hi.1.2
    have hP40 := hi.2.1.2
    obtain ⟨⟨k, hk10, ek⟩, -, hpv⟩ := hi.2.2.2.2.2.2.1 q hq
    have xk2 : xK σh (nI q) = σ.2.2.1 9 q := by rw [xk (by omega), hA1]
    have xs2 : xS σh (nI q) = σ.2.2.1 10 q := by rw [xs (by omega), hA1]
    rw [adr_3 ra pa (by omega)]
    have hsF : s_sFt σh 3 (nI q) i = if σ.2.2.1 9 q < 8 ∧ σh.1 2 = 0 then 2 else if s_out i (σ.2.2.1 10 q) = true then 3 else if s_unfit σh (nI q) = true then 2 else 0 := by
      unfold s_sFt; rw [if_neg (by decide), xk2, xs2]
    by_cases hK : σ.2.2.1 9 q < 8
    · obtain ⟨s, num, hs, es, e, e2, ⟨b1, b2, b3, b4⟩, hnum, hlo⟩ := vwN h hi hq hK
      have hk8 : k < 8 := by rw [ek] at hK; exact (nI_lt8 hk10).mp hK
      by_cases h0 : σh.1 2 = 0
      · rw [if_pos ⟨hK, h0⟩] at hsF
        rw [hsF]
        exact zc_same h (cX_stNz hc hc1 hcn e e2 b1 b2 b3 b4 hs (has_0 h0))
      · rw [if_neg (fun z => h0 z.2), es, co_out i hs] at hsF
        have hkn : ¬ s_has σh = -9 := by
          rcases hg with g | ⟨g, ⟨j, hj, ej⟩, -⟩ | ⟨g, -⟩ | ⟨g, -⟩
          · exact absurd g h0
          · rw [has_1 g, ej]; exact nI_ne9 (by omega)
          · rw [has_2 g]; split <;> decide
          · rw [has_3 g]; decide
        by_cases hco : co i (nI s) = true
        · rw [if_pos hco] at hsF
          rw [hsF]
          exact zc_same h (cX_stNo hc hc1 hcn e e2 b1 b2 b3 b4 hs hkn hco)
        · have hcf : co i (nI s) = false := by simpa using hco
          rw [if_neg hco, uf_num (by rw [xk2]; exact hK), xk2] at hsF
          rcases hg with g | ⟨g, ⟨j, hj, ej⟩, hid⟩ | ⟨g, p, hp1, hp2, ep⟩ | ⟨g, q2, hq2, eq2, h4⟩
          · exact absurd g h0
          · have hgi : gi (s_has σh) (σ.2.2.1 9 q) = s_goes (σh.1 3) (σ.2.2.1 9 q) := by rw [has_1 g, ej, ek]; exact gi_n hj hk8
            rw [g, show decide (¬ (1 : Int32) = 1) = false from rfl, Bool.false_or] at hsF
            by_cases hgo : s_goes (σh.1 3) (σ.2.2.1 9 q) = true
            · rw [hgo] at hsF
              rw [if_neg (by decide)] at hsF
              rw [hsF, if_pos rfl]
              obtain ⟨j2, hj2, rfl⟩ := vp_in_of (co_in hs hcf) (by omega)
              rw [ix16 (by omega) (by omega)]
              have hsv : s_setV σh (nI q) = s_as (σ.2.2.1 9 q) (s_as (s_has σh) (s_val σh)) := by
                unfold s_setV
                rw [if_neg h0, if_pos g, xk2, has_1 g]
                have : s_val σh = σh.2.1 := by unfold s_val; rw [if_neg h0, if_pos g]
                rw [this, hid]
              rw [hsv]
              have hz := cP_num h hq hK (j := j2) (by rw [es, nI_clamp (by omega)]; exact hj2) (iv_sz hi) (num := num) (by rw [es, nI_clamp (by omega)]; exact e2) (s_as (σ.2.2.1 9 q) (s_as (s_has σh) (s_val σh)))
              rw [es, nI_clamp (show s < 2 ^ 31 by omega)] at hz
              refine zc_put hz (by omega) ?_
              have := cX_stNy (l := l) hc hc1 hcn e e2 b1 b2 b3 b4 hs hkn hcf (hgi.trans hgo)
              rw [nI_clamp (show j2 < 2 ^ 31 by omega)] at this
              exact this
            · have hgo : s_goes (σh.1 3) (σ.2.2.1 9 q) = false := by simpa using hgo
              rw [hgo] at hsF
              rw [hsF]
              exact zc_same h (cX_stNb hc hc1 hcn e e2 b1 b2 b3 b4 hs hkn hcf (hgi.trans hgo))
          · rw [g] at hsF
            rw [hsF]
            refine zc_same h (cX_stNb hc hc1 hcn e e2 b1 b2 b3 b4 hs hkn hcf ?_)
            rw [has_2 g, ek]
            split
            · rw [show (8 : Int32) = nI 8 from rfl, gi_o (by omega) (by omega) (by omega)]; simp; omega
            · rw [show (9 : Int32) = nI 9 from rfl, gi_o (by omega) (by omega) (by omega)]; simp; omega
          · rw [g] at hsF
            rw [hsF]
            refine zc_same h (cX_stNb hc hc1 hcn e e2 b1 b2 b3 b4 hs hkn hcf ?_)
            rw [has_3 g, ek, show (10 : Int32) = nI 10 from rfl, gi_o (by omega) (by omega) (by omega)]; simp; omega
    · obtain ⟨s, thg, hs, es, e, e2, ⟨b1, b2, b3, b4⟩, hthg, hlo⟩ := vwT h hi hq hK
      have hk8 : ¬ k < 8 := by rw [ek] at hK; exact fun z => hK ((nI_lt8 hk10).mpr z)
      rw [if_neg (fun z => hK z.1), es, co_out i hs] at hsF
      by_cases hco : co i (nI s) = true
      · rw [if_pos hco] at hsF
        rw [hsF]
        exact zc_same h (cX_stTo hc hc1 hcn e e2 b1 b2 b3 b4 hs hco)
      · have hcf : co i (nI s) = false := by simpa using hco
        rw [if_neg hco, uf_thg (by rw [xk2]; exact hK), xk2] at hsF
        obtain ⟨j2, hj2, rfl⟩ := vp_in_of (co_in hs hcf) (by omega)
        rw [ix16 (by omega) (by omega)]
        have hthg2 : ∀ {x : Option Nat} {v : Int64}, x = adp ra pa (σ.2.2.1 9 q) v → cP G (va_up f (ra q + 1) (.inl (zg_c G 3, s, .inr (.inr (.inr (.inr (va_up thg (nI j2).toNatClampNeg x))))))) nn (sp σ (16 * q + j2) v) R P ra pa := by
          intro x v hx
          have hz := cP_thg h hq hK (j := j2) (by rw [es, nI_clamp (by omega)]; exact hj2) (iv_sz hi) (thg := thg) (by rw [es, nI_clamp (by omega)]; exact e2) hx
          rw [es, nI_clamp (show s < 2 ^ 31 by omega)] at hz
          rw [nI_clamp (show j2 < 2 ^ 31 by omega)]; exact hz
        rcases hg with g | ⟨g, ⟨j, hj, ej⟩, hid⟩ | ⟨g, p, hp1, hp2, ep⟩ | ⟨g, q2, hq2, eq2, h4⟩
        · rw [g, if_neg (by simp)] at hsF
          rw [hsF, if_pos rfl]
          have hv0 : s_setV σh (nI q) = 0 := by unfold s_setV; rw [if_pos g]
          rw [hv0]
          exact zc_put (hthg2 (x := none) rfl) (by omega) (cX_stTz hc hc1 hcn e e2 b1 b2 b3 b4 hs hcf (has_0 g) (by rw [g]; rfl))
        · rw [g, if_pos (by simp)] at hsF
          rw [hsF]
          refine zc_same h (cX_stTb hc hc1 hcn e e2 b1 b2 b3 b4 hs hcf (by rw [has_1 g, ej]; exact nI_ne9 (by omega)) ?_)
          rw [has_1 g, ej, ek, gi_o (by omega) (by omega) (by omega)]; simp; omega
        · obtain ⟨p1, p2, p3, p4⟩ := vwP h hp1 hp2
          have xf2 : xF σh (σh.1 5) = σ.2.2.1 7 p := by rw [ep, xf (by omega), hA1]
          have hkn : ¬ s_has σh = -9 := by rw [has_2 g]; split <;> decide
          rw [xf2] at hsF
          by_cases hfit : (k = 10 ∨ (k = 9 ∧ σ.2.2.1 7 p = 0))
          · rw [if_pos (by rw [decide_eq_true_iff, g, ek]; right; left; refine ⟨rfl, ?_⟩; rw [nI10 hk10, nI9 hk10]; exact hfit)] at hsF
            rw [hsF]
            refine zc_same h (cX_stTb hc hc1 hcn e e2 b1 b2 b3 b4 hs hcf hkn ?_)
            rw [has_2 g, xf2, ek]
            split
            · rw [show (8 : Int32) = nI 8 from rfl, gi_o (by omega) (by omega) (by omega)]; simp; omega
            · next hfn => rw [show (9 : Int32) = nI 9 from rfl, gi_o (by omega) (by omega) (by omega)]; simp; rcases hfit with z | ⟨z, z2⟩; omega; exact absurd z2 hfn
          · rw [if_neg (by rw [decide_eq_true_iff, g, ek, nI10 hk10, nI9 hk10]; rintro (z | ⟨-, z⟩ | ⟨z, -⟩); exact absurd z (by decide); exact hfit z; exact absurd z (by decide))] at hsF
            rw [hsF, if_pos rfl]
            have hv : s_setV σh (nI q) = lN p := by
              unfold s_setV; rw [if_neg (by rw [g]; decide), if_neg (by rw [g]; decide), if_pos g, ep, nI_l (by omega)]
            rw [hv]
            have hk10' : ¬ σ.2.2.1 9 q = 10 := by rw [ek, nI10 hk10]; exact fun z => hfit (Or.inl z)
            refine zc_put (hthg2 (x := some (pa p)) (adp_p hk10' hp1 (by omega)).symm) (by omega) (cX_stTP hc hc1 hcn e e2 b1 b2 b3 b4 hs hcf hkn ?_ (by rw [g, ep, adr_2 ra pa (by omega)]) p1 p2 p3)
            rw [has_2 g, xf2, ek]
            split
            · next hfn => rw [show (8 : Int32) = nI 8 from rfl, gi_o (by omega) (by omega) (by omega)]; simp; have : ¬ k = 10 := fun z => hfit (Or.inl z); have : ¬ k = 9 := fun z => hfit (Or.inr ⟨z, hfn⟩); omega
            · rw [show (9 : Int32) = nI 9 from rfl, gi_o (by omega) (by omega) (by omega)]; simp; have : ¬ k = 10 := fun z => hfit (Or.inl z); omega
        · have hkn : ¬ s_has σh = -9 := by rw [has_3 g]; decide
          by_cases hk : k = 10
          · rw [if_neg (by rw [decide_eq_true_iff, g, ek, nI10 hk10]; rintro (z | ⟨z, -⟩ | ⟨-, z⟩); exact absurd z (by decide); exact absurd z (by decide); exact z hk)] at hsF
            rw [hsF, if_pos rfl]
            have hv : s_setV σh (nI q) = lN (q2 + 1) := by
              unfold s_setV; rw [if_neg (by rw [g]; decide), if_neg (by rw [g]; decide), if_neg (by rw [g]; decide), eq2, nI_l (by omega), lN_1]
            rw [hv]
            obtain ⟨s2, num2, hs2, es2, g1, -, ⟨g2, g3, -, -⟩, -, g4⟩ := vwN h hi hq2 (by rw [h4]; decide)
            have hkk : σ.2.2.1 9 q = 10 := by rw [ek, nI10 hk10]; exact hk
            refine zc_put (hthg2 (x := some (ra q2)) (by rw [hkk, adp_q (by omega)])) (by omega) (cX_stTN hc hc1 hcn e e2 b1 b2 b3 b4 hs hcf hkn ?_ (by rw [g, eq2, adr_3 ra pa (by omega)]) g1 g2 g3)
            rw [has_3 g, hkk]; decide +kernel
          · rw [if_pos (by rw [decide_eq_true_iff, g, ek, nI10 hk10]; exact Or.inr (Or.inr ⟨rfl, hk⟩))] at hsF
            rw [hsF]
            refine zc_same h (cX_stTb hc hc1 hcn e e2 b1 b2 b3 b4 hs hcf hkn ?_)
            rw [has_3 g, ek, show (10 : Int32) = nI 10 from rfl, gi_o (by omega) (by omega) (by omega)]; simp; omega
end THG2
