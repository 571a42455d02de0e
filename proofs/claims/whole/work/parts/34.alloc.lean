/-- what a public method leaves, rows and probes counted anew -/
def cZ (G : zh_G) (f0 : Nat → va_E) (σ : sg) (R : Nat) (v : Option Value) : Option Value → zh_H → Prop := fun o h' => o = v ∧ (∃ (R2 P2 N2 D2 : Nat) (ra pa : Nat → Nat), R2 ≤ R + 1 ∧ iv σ R2 P2 N2 D2 ∧ cP G h'.1 h'.2 σ R2 P2 ra pa) ∧ ∀ a : Nat, zg_B G + 18 ≤ a → a < zg_B G + 28 → h'.1 a = f0 a
section ALC
variable {G : zh_G} {l : Launch} {f f2 : Nat → va_E} {nn : Nat} {σ : sg} {R P N D : Nat} {ra pa : Nat → Nat}
theorem cZ_of {y : MethodName} {cc : ByteArray} {n : Nat} {r : Option FieldType} {d : Nat} {av : List Value} {σ2 : sg} {N2 D2 : Nat} {v : Option Value} (hi : iv σ2 R P N2 D2) (hz : zc G l y cc n r d av (f, nn) 0 0 (cN G f nn σ2 R P ra pa v)) : zc G l y cc n r d av (f, nn) 0 0 (cZ G f σ2 R v) :=
  zc.weaken (fun o h' q => ⟨q.1, ⟨R, P, N2, D2, ra, pa, by omega, hi, by rw [q.2.1]; exact q.2.2.1⟩, q.2.2.2⟩) hz
theorem adr_up {t w : Int32} (ht : tw R P t w) (hR : R < 2 ^ 31) (hP : P < 2 ^ 31) (x : Nat) : adr (va_up ra R x) pa t w = adr ra pa t w := by
  rcases ht with rfl | ⟨rfl, p, hp1, hp2, rfl⟩ | ⟨rfl, q, hq, rfl⟩
  · rfl
  · rw [adr_2 _ _ (by omega), adr_2 _ _ (by omega)]
  · rw [adr_3 _ _ (by omega), adr_3 _ _ (by omega)]; unfold va_up; rw [if_neg (by omega)]
theorem adr_upP {t w : Int32} (ht : tw R P t w) (hR : R < 2 ^ 31) (hP : P < 2 ^ 31) (x : Nat) : adr ra (va_up pa (P + 1) x) t w = adr ra pa t w := by
  rcases ht with rfl | ⟨rfl, p, hp1, hp2, rfl⟩ | ⟨rfl, q, hq, rfl⟩
  · rfl
  · rw [adr_2 _ _ (by omega), adr_2 _ _ (by omega)]; unfold va_up; rw [if_neg (by omega)]
  · rw [adr_3 _ _ (by omega), adr_3 _ _ (by omega)]
theorem gv_tw {A : Nat → Nat → Int32} {h k : Int32} {v : Int64} {w : Int32} (hg : gv A R P h k v w) (x : Nat) (hR : R < 2 ^ 31) (hP : P < 2 ^ 31) : adr (va_up ra R x) pa h w = adr ra pa h w ∧ adr ra (va_up pa (P + 1) x) h w = adr ra pa h w := by
  rcases hg with rfl | ⟨rfl, -⟩ | ⟨rfl, p, hp1, hp2, rfl⟩ | ⟨rfl, q, hq, rfl, -⟩
  · exact ⟨rfl, rfl⟩
  · exact ⟨rfl, rfl⟩
  · exact ⟨adr_up (Or.inr (Or.inl ⟨rfl, p, hp1, hp2, rfl⟩)) hR hP x, adr_upP (R := R) (P := P) (Or.inr (Or.inl ⟨rfl, p, hp1, hp2, rfl⟩)) hR hP x⟩
  · exact ⟨adr_up (P := P) (Or.inr (Or.inr ⟨rfl, q, hq, rfl⟩)) hR hP x, adr_upP (R := R) (P := P) (Or.inr (Or.inr ⟨rfl, q, hq, rfl⟩)) hR hP x⟩
theorem new_9 (hi : iv σ R P N D) (k n : Int32) (q : Nat) : (s_newS σ k n).2.2.1 9 q = if q = R then k else σ.2.2.1 9 q := by
  show upd (σ.2.2.1 9) (σ.1 8).toNatClampNeg k q = _
  rw [hi.1.1, nI_clamp (by have := hi.1.2; omega)]; rfl
theorem new_10 (hi : iv σ R P N D) (k n : Int32) (q : Nat) : (s_newS σ k n).2.2.1 10 q = if q = R then n else σ.2.2.1 10 q := by
  show upd (σ.2.2.1 10) (σ.1 8).toNatClampNeg n q = _
  rw [hi.1.1, nI_clamp (by have := hi.1.2; omega)]; rfl
theorem new_p (hi : iv σ R P N D) (k n : Int32) (a : Nat) : (s_newS σ k n).2.2.2 a = if 16 * R ≤ a ∧ a < 16 * R + 16 then 0 else σ.2.2.2 a := by
  show (if 16 * (σ.1 8).toNatClampNeg ≤ a ∧ a < 16 * (σ.1 8).toNatClampNeg + 16 then (0 : Int64) else σ.2.2.2 a) = _
  rw [hi.1.1, nI_clamp (by have := hi.1.2; omega)]
theorem tw_m {t w : Int32} (ht : tw R P t w) : tw (R + 1) P t w := by
  rcases ht with e | e | ⟨e, q, hq, e2⟩
  · exact Or.inl e
  · exact Or.inr (Or.inl e)
  · exact Or.inr (Or.inr ⟨e, q, by omega, e2⟩)
theorem as_z : ∀ k, k < 8 → s_as (nI k) 0 = 0 := by decide +kernel
theorem iv_new (hi : iv σ R P N D) {k s : Nat} (hk : k ≤ 10) (hs : s ≤ 16) (hR : R + 1 ≤ 4000) : iv (s_newS σ (nI k) (nI s)) (R + 1) P N D := by
  have hi0 := hi
  obtain ⟨a, b, c, d, e, g, h, m⟩ := hi
  refine ⟨⟨?_, hR⟩, b, c, d, fun r hr => tw_m (e r hr), ?_, fun q hq => ?_, m⟩
  · show upd σ.1 8 (σ.1 8 + 1) 8 = _
    unfold upd; rw [if_pos rfl, a.1, nI_1]
  · show gv (s_newS σ (nI k) (nI s)).2.2.1 (R + 1) P (σ.1 2) (σ.1 3) σ.2.1 (σ.1 5)
    rcases g with g | g | g | ⟨g, q, hq, e1, e2⟩
    · exact Or.inl g
    · exact Or.inr (Or.inl g)
    · exact Or.inr (Or.inr (Or.inl g))
    · exact Or.inr (Or.inr (Or.inr ⟨g, q, by omega, e1, by rw [new_9 hi0, if_neg (by omega)]; exact e2⟩))
  · unfold rv
    rw [new_9 hi0, new_10 hi0]
    by_cases hqR : q = R
    · subst hqR
      rw [if_pos rfl, if_pos rfl]
      refine ⟨⟨k, hk, rfl⟩, ⟨s, hs, rfl⟩, fun j hj => ?_⟩
      rw [new_p hi0, if_pos (by omega)]
      exact ⟨fun hK => as_z k ((nI_lt8 hk).mp hK), fun _ => Or.inl rfl⟩
    · rw [if_neg hqR, if_neg hqR]
      obtain ⟨x, y, z⟩ := h q (by omega)
      refine ⟨x, y, fun j hj => ?_⟩
      rw [new_p hi0, if_neg (by omega)]
      obtain ⟨p1, p2⟩ := z j hj
      refine ⟨p1, fun hK => ?_⟩
      rcases p2 hK with u | u | ⟨u, q2, hq2, u1, u2⟩
      · exact Or.inl u
      · exact Or.inr (Or.inl u)
      · exact Or.inr (Or.inr ⟨u, q2, by omega, u1, by rw [new_9 hi0, if_neg (by omega)]; exact u2⟩)
theorem adp_up (hi : iv σ R P N D) {K : Int32} {v : Int64} (hv : pv σ.2.2.1 R P K v) (hK : ¬ K < 8) (x : Nat) : adp (va_up ra R x) pa K v = adp ra pa K v ∧ adp ra (va_up pa (P + 1) x) K v = adp ra pa K v := by
  have hR := hi.1.2
  have hP := hi.2.1.2
  rcases hv.2 hK with rfl | ⟨u, p, hp1, hp2, rfl, -⟩ | ⟨rfl, q, hq, rfl, -⟩
  · exact ⟨rfl, rfl⟩
  · rw [adp_p u hp1 (by omega), adp_p u hp1 (by omega), adp_p u hp1 (by omega)]
    refine ⟨rfl, ?_⟩
    unfold va_up; rw [if_neg (by omega)]
  · rw [adp_q (by omega), adp_q (by omega), adp_q (by omega)]
    refine ⟨?_, rfl⟩
    unfold va_up; rw [if_neg (by omega)]
/-- a new row at nn, its array at nn + 1 -/
theorem cP_new (h : cP G f nn σ R P ra pa) (hi : iv σ R P N D) {k s : Nat} (hk : k ≤ 10) (hs : s ≤ 16) (hlo : ∀ a : Nat, a < nn → f2 a = f a) (hN : k < 8 → f2 nn = .inr (1, [.int (nI k), .int (nI s), .ref (nn + 1)]) ∧ f2 (nn + 1) = .inl (zg_c G 1, s, .inr (.inl (fun _ => 0)))) (hT : ¬ k < 8 → f2 nn = .inr (4, [.int (nI k), .int (nI s), .ref (nn + 1)]) ∧ f2 (nn + 1) = .inl (zg_c G 3, s, .inr (.inr (.inr (.inr (fun _ => none)))))) : cP G f2 (nn + 2) (s_newS σ (nI k) (nI s)) (R + 1) P (va_up ra R nn) pa := by
  have hR := hi.1.2
  have hP40 := hi.2.1.2
  obtain ⟨k1, k2, ⟨rg, k3, k3b⟩, k4, k5, k6, k7, k8, k9, k10, k11, k12⟩ := h
  have raq : ∀ q : Nat, q < R → va_up ra R nn q = ra q := fun q hq => by unfold va_up; rw [if_neg (by omega)]
  have raR : va_up ra R nn R = nn := by unfold va_up; rw [if_pos rfl]
  refine ⟨by omega, by rw [hlo _ (by omega)]; exact k2, ⟨rg, by rw [hlo _ (by omega)]; exact k3, fun r hr => ?_⟩, ?_, k5.imp (fun a h => h.imp (fun b h => h.imp (fun c h => by rw [hlo _ (by omega)]; exact h))), by rw [hlo _ (by omega)]; exact k6, fun j hj => ?_, by rw [hlo _ (by omega)]; exact k8, fun q hq => ?_, fun p hp1 hp2 => ?_, fun q q2 hq hq2 e => ?_, k12⟩
  · show rg r = adr (va_up ra R nn) pa (σ.2.2.1 0 r) (σ.2.2.1 1 r)
    rw [adr_up (hi.2.2.2.2.1 r hr) (by omega) (by omega)]; exact k3b r hr
  · rw [hlo _ (by omega), k4]
    unfold hcell
    have e1 : s_has (s_newS σ (nI k) (nI s)) = s_has σ := rfl
    have e2 : s_val (s_newS σ (nI k) (nI s)) = s_val σ := by
      unfold s_val
      show (if σ.1 2 = 0 then (0 : Int64) else if σ.1 2 = 1 then σ.2.1 else if σ.1 2 = 2 then (σ.1 5).toInt64 else (xS (s_newS σ (nI k) (nI s)) (σ.1 5)).toInt64) = _
      rcases hi.2.2.2.2.2.1 with g | ⟨g, -⟩ | ⟨g, -⟩ | ⟨g, q, hq, eq, -⟩
      · rw [if_pos g, if_pos g]
      · rw [if_neg (by rw [g]; decide), if_pos g, if_neg (by rw [g]; decide), if_pos g]
      · rw [if_neg (by rw [g]; decide), if_neg (by rw [g]; decide), if_pos g, if_neg (by rw [g]; decide), if_neg (by rw [g]; decide), if_pos g]
      · rw [if_neg (by rw [g]; decide), if_neg (by rw [g]; decide), if_neg (by rw [g]; decide), if_neg (by rw [g]; decide), if_neg (by rw [g]; decide), if_neg (by rw [g]; decide)]
        have ez : (s_newS σ (nI k) (nI s)).2.2.1 10 q = σ.2.2.1 10 q := by rw [new_10 hi, if_neg (by omega)]
        rw [eq, xs (by omega), xs (by omega), ez]
    rw [e1, e2]
    show _ = Sum.inr (0, [Value.int (s_has σ), Value.long (s_val σ), va_rf (adr (va_up ra R nn) pa (σ.1 2) (σ.1 5))])
    rw [(gv_tw hi.2.2.2.2.2.1 nn (by omega) (by omega)).1]
  · obtain ⟨oc, a, b⟩ := k7 j hj
    exact ⟨oc, by rw [hlo _ (by omega)]; exact a, b⟩
  · by_cases hqR : q = R
    · subst hqR
      unfold rowp
      rw [raR, new_9 hi, new_10 hi, if_pos rfl, if_pos rfl, nI_clamp (by omega)]
      refine ⟨by omega, fun hK => ?_, fun hK => ?_⟩
      · obtain ⟨x, y⟩ := hN ((nI_lt8 hk).mp hK)
        exact ⟨x, _, y, fun j hj => by rw [new_p hi, if_pos (by omega)]⟩
      · obtain ⟨x, y⟩ := hT (fun z => hK ((nI_lt8 hk).mpr z))
        exact ⟨x, _, y, fun j hj => by rw [new_p hi, if_pos (by omega)]; rfl⟩
    · have hq' : q < R := by omega
      have hr := k9 q hq'
      have hsz := iv_sz hi q hq'
      have hrv := hi.2.2.2.2.2.2.1 q hq'
      unfold rowp at hr ⊢
      rw [raq q hq', new_9 hi, new_10 hi, if_neg hqR, if_neg hqR, hlo _ (by omega), hlo _ (by omega)]
      refine ⟨by omega, fun hK => ?_, fun hK => ?_⟩
      · obtain ⟨x, num, y, z⟩ := hr.2.1 hK
        exact ⟨x, num, y, fun j hj => by rw [new_p hi, if_neg (by omega)]; exact z j hj⟩
      · obtain ⟨x, thg, y, z⟩ := hr.2.2 hK
        exact ⟨x, thg, y, fun j hj => by rw [new_p hi, if_neg (by omega), (adp_up hi (hrv.2.2 j (by omega)) hK nn).1]; exact z j hj⟩
  · have hr := k10 p hp1 hp2
    unfold prbp at *
    rw [hlo _ (by omega)]
    exact ⟨by omega, hr.2⟩
  · by_cases h1 : q = R
    · by_cases h2 : q2 = R
      · omega
      · rw [h1, raR, raq q2 (by omega)] at e
        have := (k9 q2 (by omega)).1; omega
    · by_cases h2 : q2 = R
      · rw [h2, raR, raq q (by omega)] at e
        have := (k9 q (by omega)).1; omega
      · rw [raq q (by omega), raq q2 (by omega)] at e
        exact k11 q q2 (by omega) (by omega) e
theorem rack_arr (A : Nat → Nat → Int32) (r q : Nat) (k n x : Int32) : va_up (va_up (va_up (va_up A 0 (upd (A 0) r 3)) 9 (upd (A 9) q k)) 10 (upd (A 10) q n)) 1 (upd (A 1) r x) = va_up (va_up (va_up (va_up A 9 (upd (A 9) q k)) 10 (upd (A 10) q n)) 0 (upd (A 0) r 3)) 1 (upd (A 1) r x) := by
  funext m
  simp only [va_up]
  by_cases h1 : m = 1
  · simp [h1]
  · by_cases h0 : m = 0
    · simp [h0]
    · simp [h0, h1]
theorem rack_eq (σ : sg) (r k n x : Int32) : sa (s_newS (sa σ 0 r.toNatClampNeg 3) k n) 1 r.toNatClampNeg x = sa (sa (s_newS σ k n) 0 r.toNatClampNeg 3) 1 r.toNatClampNeg x := by
  obtain ⟨I, v, A, p⟩ := σ
  have h := rack_arr A r.toNatClampNeg (I 8).toNatClampNeg k n x
  have va_n : ∀ (A : Nat → Nat → Int32) (a : Nat) (e : Nat → Int32) (b : Nat), ¬ b = a → va_up A a e b = A b := fun A a e b h => by unfold va_up; rw [if_neg h]
  unfold sa s_newS
  dsimp only
  have d1 : ∀ e, va_up A 0 e 9 = A 9 := fun e => va_n _ _ _ _ (by decide)
  have d2 : ∀ e, va_up A 0 e 10 = A 10 := fun e => va_n _ _ _ _ (by decide)
  have d3 : ∀ (B : Nat → Nat → Int32) e, va_up B 10 e 1 = B 1 := fun B e => va_n _ _ _ _ (by decide)
  have d4 : ∀ (B : Nat → Nat → Int32) e, va_up B 9 e 1 = B 1 := fun B e => va_n _ _ _ _ (by decide)
  have d5 : ∀ (B : Nat → Nat → Int32) e, va_up B 0 e 1 = B 1 := fun B e => va_n _ _ _ _ (by decide)
  have d6 : ∀ (B : Nat → Nat → Int32) e, va_up B 10 e 0 = B 0 := fun B e => va_n _ _ _ _ (by decide)
  have d7 : ∀ (B : Nat → Nat → Int32) e, va_up B 9 e 0 = B 0 := fun B e => va_n _ _ _ _ (by decide)
  simp only [d1, d2, d3, d4, d5, d6, d7]
  rw [h]
theorem iv_rack (hi : iv σ R P N D) {r t w : Int32} (ht : tw R P t w) : iv (sa (sa σ 0 r.toNatClampNeg t) 1 r.toNatClampNeg w) R P N D := by
  obtain ⟨a, b, c, d, e, g, h, m⟩ := hi
  refine ⟨a, b, c, d, fun r2 hr2 => ?_, g, h, m⟩
  show tw R P (upd (σ.2.2.1 0) r.toNatClampNeg t r2) (upd (σ.2.2.1 1) r.toNatClampNeg w r2)
  unfold upd
  by_cases hr : r2 = r.toNatClampNeg
  · rw [if_pos hr, if_pos hr]; exact ht
  · rw [if_neg hr, if_neg hr]; exact e r2 hr2
theorem rng10 {k : Int32} (h1 : ¬ k < 0) (h2 : ¬ 11 ≤ k) : ∃ b : Nat, b ≤ 10 ∧ k = nI b := by
  obtain ⟨b, hb, e⟩ := vp_in_of (gi_in h1 h2) (by decide)
  exact ⟨b, by omega, e⟩
theorem rng16 {k : Int32} (h1 : ¬ k < 0) (h2 : k ≤ 16) : ∃ b : Nat, b ≤ 16 ∧ k = nI b := nI_of2 (M := 16) (by decide) h1 h2
theorem rng4 {k : Int32} (h1 : ¬ k < 0) (h2 : k ≤ 4) : ∃ b : Nat, b ≤ 4 ∧ k = nI b := nI_of2 (M := 4) (by decide) h1 h2
theorem rng_t {k lo hi : Int32} (h : k < lo ∨ hi < k) : s_rng k lo hi = true := decide_eq_true h
theorem rng_f {k lo hi : Int32} (h1 : ¬ k < lo) (h2 : ¬ hi < k) : s_rng k lo hi = false := decide_eq_false (by rintro (z | z); exact h1 z; exact h2 z)
theorem le_11 {k : Int32} : 11 ≤ k ↔ 10 < k := by
  rw [Int32.lt_iff_toInt_lt, Int32.le_iff_toInt_le, show (11 : Int32).toInt = 11 from rfl, show (10 : Int32).toInt = 10 from rfl]; omega
end ALC
