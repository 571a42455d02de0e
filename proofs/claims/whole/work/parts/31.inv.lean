section IVV
variable {σ σ2 σh : sg} {R P N D : Nat}
theorem iv_ag (hi : iv σ R P N D) (h0 : σ2.2.2.1 0 = σ.2.2.1 0) (h1 : σ2.2.2.1 1 = σ.2.2.1 1) (h7 : σ2.2.2.1 7 = σ.2.2.1 7) (h9 : σ2.2.2.1 9 = σ.2.2.1 9) (h10 : σ2.2.2.1 10 = σ.2.2.1 10) (h13 : σ2.2.2.1 13 = σ.2.2.1 13) (hp : σ2.2.2.2 = σ.2.2.2) (e8 : σ2.1 8 = σ.1 8) (e6 : σ2.1 6 = σ.1 6) (e12 : σ2.1 12 = σ.1 12) {D2 : Nat} (e14 : σ2.1 14 = nI D2) (hD : D2 ≤ N) (e2 : σ2.1 2 = σ.1 2) (e3 : σ2.1 3 = σ.1 3) (e5 : σ2.1 5 = σ.1 5) (ev : σ2.2.1 = σ.2.1) : iv σ2 R P N D2 := by
  obtain ⟨a, b, c, d, e, g, h, k⟩ := hi
  refine ⟨by rw [e8]; exact a, by rw [e6]; exact b, by rw [e12]; exact c, ⟨e14, hD⟩, by rw [h0, h1]; exact e, ?_, fun q hq => ?_, fun j hj => ?_⟩
  · unfold gv at *; rw [e2, e3, e5, ev, h9]; exact g
  · obtain ⟨x, y, z⟩ := h q hq
    refine ⟨by rw [h9]; exact x, by rw [h10]; exact y, fun j hj => ?_⟩
    have := z j hj
    unfold pv at *; rw [h9, hp, h7]; exact this
  · have := k j hj
    unfold stp at *; rw [h13]; exact this
theorem iv_met (hi : iv σ R P N D) (k : Int32) : iv (s_met1 σ k) R P N D :=
  iv_ag hi rfl rfl rfl rfl rfl rfl rfl rfl rfl rfl hi.2.2.2.1.1 hi.2.2.2.1.2 rfl rfl rfl rfl
theorem iv_ansS (hi : iv σ R P N D) (k : Int32) : iv (s_ansS σ k) R P N D := by
  unfold s_ansS; split
  · exact hi
  · exact iv_met hi k
theorem iv_getS (hi : iv σ R P N D) {r : Int32} (hr : vp_in r 10) (i : Int32) : iv (s_getS σ r i) R P N D := by
  unfold s_getS
  split
  · next h0 =>
    obtain ⟨q, j, s, hq, hs, hj, -, ew, ei, -⟩ := gF_q hi (iv_tw hi hr) h0
    refine iv_sg hi (gets_A _ _) (gets_1 _ _ (by decide) (by decide) (by decide)) (gets_1 _ _ (by decide) (by decide) (by decide)) (gets_1 _ _ (by decide) (by decide) (by decide)) (gets_1 _ _ (by decide) (by decide) (by decide)) ?_
    rw [ew, ei]; exact (gets_gv hi hq (by omega)).1
  · exact hi
theorem iv_hold (hi : iv σ R P N D) {b : Nat} (hb : b < 8) (v : Int64) : iv (s_hold σ (nI b) (s_as (nI b) v)) R P N D :=
  iv_sg hi rfl rfl rfl rfl rfl (Or.inr (Or.inl ⟨rfl, ⟨b, hb, rfl⟩, as_idem hb v⟩))
theorem iv_readS (hi : iv σ R P N D) (t w i : Int32) {b : Nat} (hb : b < 8) : iv (s_readS σ t w i (nI b)) R P N D := by
  unfold s_readS; split
  · exact iv_hold hi hb _
  · exact hi
theorem iv_put (hi : iv σ R P N D) {q j : Nat} (hj : j < 16) {v : Int64} (hv : q < R → pv σ.2.2.1 R P (σ.2.2.1 9 q) v) : iv (sp σ (16 * q + j) v) R P N D := by
  obtain ⟨a, b, c, d, e, g, h, k⟩ := hi
  refine ⟨a, b, c, d, e, g, fun q2 hq2 => ?_, k⟩
  obtain ⟨x, y, z⟩ := h q2 hq2
  refine ⟨x, y, fun j2 hj2 => ?_⟩
  show pv σ.2.2.1 R P (σ.2.2.1 9 q2) (vp_updL σ.2.2.2 (16 * q + j) v (16 * q2 + j2))
  unfold vp_updL
  by_cases hx : 16 * q2 + j2 = 16 * q + j
  · have : q2 = q := by omega
    subst this
    rw [if_pos hx]; exact hv hq2
  · rw [if_neg hx]; exact z j2 hj2
theorem wF_q (hi : iv σ R P N D) {t w i of : Int32} (ht : tw R P t w) (h : s_wF σ t w i of = 0) : ∃ q j s k : Nat, q < R ∧ s ≤ 16 ∧ j < s ∧ w = nI q ∧ i = nI j ∧ k < 8 ∧ σ.2.2.1 9 q = nI k := by
  obtain ⟨h3, hK, ho, -⟩ := wF_out h
  subst h3
  rcases ht with e | ⟨e, -⟩ | ⟨-, q, hq, rfl⟩
  · exact absurd e (by decide)
  · exact absurd e (by decide)
  · have hR := hi.1.2
    obtain ⟨⟨k, hk, ek⟩, ⟨s, hs, es⟩, -⟩ := hi.2.2.2.2.2.2.1 q hq
    rw [xs (by omega), es, co_out i hs] at ho
    obtain ⟨j, hj, rfl⟩ := vp_in_of (co_in hs ho) (by omega)
    rw [xk (by omega), ek] at hK
    exact ⟨q, j, s, k, hq, hs, hj, rfl, rfl, (nI_lt8 hk).mp hK, ek⟩
theorem iv_writeS (hi : iv σ R P N D) {t w : Int32} (ht : tw R P t w) (i of : Int32) (v : Int64) : iv (s_writeS σ t w i of v) R P N D := by
  unfold s_writeS; split
  · next h0 =>
    obtain ⟨q, j, s, k, hq, hs, hj, rfl, rfl, hk, ek⟩ := wF_q hi ht h0
    have hR := hi.1.2
    rw [ix16 (by omega) (by omega), xk (by omega)]
    refine iv_put hi (by omega) (fun _ => ⟨fun _ => by rw [ek]; exact as_idem hk _, fun hn => absurd (by rw [ek]; exact (nI_lt8 (by omega)).mpr hk) hn⟩)
  · exact hi
theorem sFt_q (hi : iv σ R P N D) (hA : σh.2.2 = σ.2.2) {t w i : Int32} (ht : tw R P t w) (h : s_sFt σh t w i = 0) : ∃ q j s : Nat, q < R ∧ s ≤ 16 ∧ j < s ∧ w = nI q ∧ i = nI j ∧ ¬ (σ.2.2.1 9 q < 8 ∧ σh.1 2 = 0) ∧ s_unfit σh (nI q) = false := by
  unfold s_sFt at h
  by_cases h3 : t = 3
  · subst h3
    rw [if_neg (by decide)] at h
    rcases ht with e | ⟨e, -⟩ | ⟨-, q, hq, rfl⟩
    · exact absurd e (by decide)
    · exact absurd e (by decide)
    · have hR := hi.1.2
      have hA1 : σh.2.2.1 = σ.2.2.1 := by rw [hA]
      obtain ⟨-, ⟨s, hs, es⟩, -⟩ := hi.2.2.2.2.2.2.1 q hq
      rw [xs (by omega), xk (by omega), hA1, es, co_out i hs] at h
      by_cases h4 : σ.2.2.1 9 q < 8 ∧ σh.1 2 = 0
      · rw [if_pos h4] at h; exact absurd h (by decide)
      · rw [if_neg h4] at h
        by_cases hco : co i (nI s) = true
        · rw [if_pos hco] at h; exact absurd h (by decide)
        · rw [if_neg hco] at h
          by_cases hu : s_unfit σh (nI q) = true
          · rw [if_pos hu] at h; exact absurd h (by decide)
          · obtain ⟨j, hj, rfl⟩ := vp_in_of (co_in hs (by simpa using hco)) (by omega)
            exact ⟨q, j, s, hq, hs, hj, rfl, rfl, h4, by simpa using hu⟩
  · rw [if_pos h3] at h
    by_cases h0 : t = 0
    · rw [if_pos h0] at h; exact absurd h (by decide)
    · rw [if_neg h0] at h; exact absurd h (by decide)
theorem iv_setP (hi : iv σ R P N D) (hA : σh.2.2 = σ.2.2) (hg : gv σ.2.2.1 R P (σh.1 2) (σh.1 3) σh.2.1 (σh.1 5)) {t w : Int32} (ht : tw R P t w) (i : Int32) : iv (if s_sFt σh t w i = 0 then sp σ (16 * w + i).toNatClampNeg (s_setV σh w) else σ) R P N D := by
  split
  · next h0 =>
    obtain ⟨q, j, s, hq, hs, hj, rfl, rfl, h4, hu⟩ := sFt_q hi hA ht h0
    have hR := hi.1.2
    have hP40 := hi.2.1.2
    have hA1 : σh.2.2.1 = σ.2.2.1 := by rw [hA]
    rw [ix16 (by omega) (by omega)]
    obtain ⟨⟨k, hk10, ek⟩, -, -⟩ := hi.2.2.2.2.2.2.1 q hq
    have xk2 : xK σh (nI q) = σ.2.2.1 9 q := by rw [xk (by omega), hA1]
    refine iv_put hi (by omega) (fun _ => ⟨fun hK => ?_, fun hK => ?_⟩)
    · rw [uf_num (by rw [xk2]; exact hK), xk2] at hu
      have h1 : σh.1 2 = 1 := by
        by_cases h1 : σh.1 2 = 1
        · exact h1
        · rw [decide_eq_true h1] at hu; exact absurd hu (by simp)
      unfold s_setV
      rw [if_neg (by rw [h1]; decide), if_pos h1, xk2, ek]
      exact as_idem ((nI_lt8 hk10).mp (by rw [ek] at hK; exact hK)) _
    · rw [uf_thg (by rw [xk2]; exact hK), xk2, decide_eq_false_iff_not] at hu
      rcases hg with g | ⟨g, -⟩ | ⟨g, p, hp1, hp2, ep⟩ | ⟨g, q2, hq2, eq2, h4'⟩
      · left; unfold s_setV; rw [if_pos g]
      · exact absurd (Or.inl g) hu
      · right; left
        refine ⟨fun z => hu (Or.inr (Or.inl ⟨g, Or.inl z⟩)), p, hp1, hp2, ?_, fun z z2 => hu (Or.inr (Or.inl ⟨g, Or.inr ⟨z, ?_⟩⟩))⟩
        · unfold s_setV; rw [if_neg (by rw [g]; decide), if_neg (by rw [g]; decide), if_pos g, ep, nI_l (by omega)]
        · rw [ep, xf (by omega), hA1]; exact z2
      · right; right
        refine ⟨?_, q2, hq2, ?_, h4'⟩
        · by_cases z : σ.2.2.1 9 q = 10
          · exact z
          · exact absurd (Or.inr (Or.inr ⟨g, z⟩)) hu
        · unfold s_setV; rw [if_neg (by rw [g]; decide), if_neg (by rw [g]; decide), if_neg (by rw [g]; decide), eq2, nI_l (by omega), lN_1]
  · exact hi
theorem iv_setS (hi : iv σ R P N D) {r : Int32} (hr : vp_in r 10) (i : Int32) : iv (s_setS σ r i) R P N D := by
  unfold s_setS; rw [sFt_eq]
  exact iv_setP hi rfl hi.2.2.2.2.2.1 (iv_tw hi hr) i
theorem iv_wiS (hi : iv σ R P N D) (r i j : Int32) : iv (s_wiS σ r i j) R P N D := by
  unfold s_wiS; split
  · exact iv_fi hi r i
  · exact iv_readS (iv_fi hi r i) _ _ _ (b := 5) (by decide)
theorem fi_tw (hi : iv σ R P N D) {r i : Int32} (hr : vp_in r 10) (h0 : s_gF σ (xT σ r) (xW σ r) i = 0) (h3 : (s_fiS σ r i).1 18 = 3) : ∃ q : Nat, q < R ∧ (s_fiS σ r i).1 19 = nI q := by
  by_cases hK : xK σ (xW σ r) < 8
  · have h18 : (s_fiS σ r i).1 18 = 1 := by
      unfold s_fiS s_fiT; rw [if_pos h0, if_pos hK]; rfl
    rw [h18] at h3; exact absurd h3 (by decide)
  · obtain ⟨htw, f18, f19⟩ := fi_in hi hr h0 hK
    rw [f18] at h3
    rw [f19 h3]
    rcases htw with e | ⟨e, -⟩ | ⟨-, q, hq, e⟩
    · rw [e] at h3; exact absurd h3 (by decide)
    · rw [e] at h3; exact absurd h3 (by decide)
    · exact ⟨q, hq, e⟩
theorem iv_inS (hi : iv σ R P N D) {r : Int32} (hr : vp_in r 10) (i j v : Int32) : iv (s_inS σ r i j v) R P N D := by
  unfold s_inS; split
  · next hle =>
    have h0 := (le0_4 (gF_in _ _ _ _)).mp hle
    by_cases hz : s_wF (s_fiS σ r i) ((s_fiS σ r i).1 18) ((s_fiS σ r i).1 19) j 4 = 0
    · obtain ⟨q, hq, e⟩ := fi_tw hi hr h0 (wF_out hz).1
      exact iv_writeS (iv_fi hi r i) (Or.inr (Or.inr ⟨(wF_out hz).1, q, hq, e⟩)) _ _ _
    · unfold s_writeS; rw [if_neg hz]; exact iv_fi hi r i
  · exact iv_fi hi r i
theorem iv_moS (hi : iv σ R P N D) {a b : Int32} (ha : vp_in a 10) (hb : vp_in b 10) (i k : Int32) : iv (s_moS σ a i b k) R P N D := by
  by_cases h0 : s_gF σ (xT σ a) (xW σ a) i = 0
  · have hle : s_gF σ (xT σ a) (xW σ a) i ≤ 0 := (le0_4 (gF_in _ _ _ _)).mpr h0
    have hgS : s_getS σ a i = s_gets σ (xW σ a) i := by unfold s_getS; rw [if_pos h0]
    have hbk := back_si (s_gets σ (xW σ a) i) σ (gets_A _ _) (fun k h2 h3 h5 => gets_1 _ _ h2 h3 h5)
    have hxw : xW (s_gets σ (xW σ a) i) b = xW σ b := by unfold xW; rw [gets_A]
    have hsf : s_sF (s_gets σ (xW σ a) i) b k = s_sFt (s_gets σ (xW σ a) i) (xT σ b) (xW σ b) k := by rw [sFt_eq]; unfold xT xW; rw [gets_A]
    have hmS : s_moS σ a i b k = if s_sFt (s_gets σ (xW σ a) i) (xT σ b) (xW σ b) k = 0 then sp σ (16 * xW σ b + k).toNatClampNeg (s_setV (s_gets σ (xW σ a) i) (xW σ b)) else σ := by
      unfold s_moS; rw [if_pos hle, hgS]; unfold s_setS; rw [hsf]
      by_cases hz : s_sFt (s_gets σ (xW σ a) i) (xT σ b) (xW σ b) k = 0
      · rw [if_pos hz, if_pos hz, back_sp, hxw, hbk]
      · rw [if_neg hz, if_neg hz, hbk]
    rw [hmS]
    obtain ⟨q, j, s, hq, hs, hj, e3', ew, ei, es⟩ := gF_q hi (iv_tw hi ha) h0
    exact iv_setP hi (gets_A _ _) (by rw [ew, ei]; exact (gets_gv hi hq (by omega)).1) (iv_tw hi hb) k
  · have hle : ¬ s_gF σ (xT σ a) (xW σ a) i ≤ 0 := fun z => h0 ((le0_4 (gF_in _ _ _ _)).mp z)
    have : s_moS σ a i b k = σ := by
      unfold s_moS s_getS; rw [if_neg hle, if_neg h0]; exact back_si σ σ rfl (fun _ _ _ _ => rfl)
    rw [this]; exact hi
theorem iv_doS (hi : iv σ R P N D) {op a i b k : Int32} (ha : vp_in a 10) (hb : vp_in b 10) {j : Nat} (hj : j < 8) (ek : k = nI j) : iv (s_doS σ op a i b k) R P N D := by
  subst ek
  unfold s_doS
  split
  · exact iv_getS hi ha i
  · split
    · exact iv_setS hi ha i
    · split
      · exact iv_readS hi _ _ _ hj
      · split
        · split
          · exact hi
          · exact iv_writeS hi (iv_tw hi ha) _ _ _
        · split
          · exact iv_wiS hi _ _ _
          · exact iv_moS hi ha hb _ _
theorem rk_of (hi : iv σ R P N D) {q : Nat} (hq : q < R) : rk σ (nI q) := by
  have hR := hi.1.2
  obtain ⟨-, ⟨s, hs, es⟩, -⟩ := hi.2.2.2.2.2.2.1 q hq
  refine ⟨vp_in_nI (by omega) (by decide), fun i ho => ?_⟩
  rw [xs (by omega), es, co_out i hs] at ho
  obtain ⟨j, hj, rfl⟩ := vp_in_of (co_in hs ho) (by omega)
  exact in16 (by omega) (by omega)
theorem okk_of (hi : iv σ R P N D) : okk σ := by
  have hP := hi.2.1.2
  have hR := hi.1.2
  refine ⟨fun r hr h3 => ?_, fun h2 => ?_, fun h0 h1 h3 => ?_, fun h0 h1 h2 => ?_⟩
  · rcases iv_tw hi hr with e | ⟨e, -⟩ | ⟨-, q, hq, e⟩
    · rw [e] at h3; exact absurd h3 (by decide)
    · rw [e] at h3; exact absurd h3 (by decide)
    · rw [e]; exact rk_of hi hq
  · rcases hi.2.2.2.2.2.1 with g | ⟨g, -⟩ | ⟨-, p, hp1, hp2, e⟩ | ⟨g, -⟩
    · rw [g] at h2; exact absurd h2 (by decide)
    · rw [g] at h2; exact absurd h2 (by decide)
    · rw [e]; exact vp_in_nI (by omega) (by decide)
    · rw [g] at h2; exact absurd h2 (by decide)
  · rcases hi.2.2.2.2.2.1 with g | ⟨g, -⟩ | ⟨-, p, hp1, hp2, e⟩ | ⟨g, -⟩
    · exact absurd g h0
    · exact absurd g h1
    · rw [e]; exact vp_in_nI (by omega) (by decide)
    · exact absurd g h3
  · rcases hi.2.2.2.2.2.1 with g | ⟨g, -⟩ | ⟨g, -⟩ | ⟨-, q, hq, e, -⟩
    · exact absurd g h0
    · exact absurd g h1
    · exact absurd g h2
    · rw [e]; exact vp_in_nI (by omega) (by decide)
theorem okG_of (hi : iv σ R P N D) : okG σ := by
  refine ⟨okk_of hi, fun r i hr => okk_of (iv_getS hi hr i), fun r i hr hle h3 => ?_⟩
  obtain ⟨q, hq, e⟩ := fi_tw hi hr ((le0_4 (gF_in _ _ _ _)).mp hle) h3
  rw [e]; exact rk_of (iv_fi hi r i) hq
end IVV
