section LPS
variable {G : zh_G} {l : Launch} {f f2 : Nat → va_E} {nn : Nat} {σ σ2 : sg} {R P N D : Nat} {ra pa : Nat → Nat}
theorem iv_gg (hi : iv σ R P N D) (hA : σ2.2.2 = σ.2.2) (e8 : σ2.1 8 = σ.1 8) (e6 : σ2.1 6 = σ.1 6) (e12 : σ2.1 12 = σ.1 12) (e14 : σ2.1 14 = σ.1 14) (hg : gv σ.2.2.1 R P (σ2.1 2) (σ2.1 3) σ2.2.1 (σ2.1 5)) : iv σ2 R P N D := by
  obtain ⟨a, b, c, d, e, g, h, m⟩ := hi
  refine ⟨by rw [e8]; exact a, by rw [e6]; exact b, by rw [e12]; exact c, by rw [e14]; exact d, by rw [hA]; exact e, by rw [hA]; exact hg, fun q hq => ?_, fun k hk => ?_⟩
  · have z := h q hq
    unfold rv at *; rw [hA]; exact z
  · have z := m k hk
    unfold stp at *; rw [hA]; exact z
theorem line_I (I : Nat → Int32) (x w : Int32) : upd (upd (upd I 2 3) 8 x) 5 w = upd (upd (upd I 8 x) 2 3) 5 w := by
  funext j
  unfold upd
  by_cases h5 : j = 5
  · simp [h5]
  · by_cases h8 : j = 8
    · simp [h8]
    · simp [h5, h8]
theorem line_eq (σ : sg) (k n w : Int32) : si (s_newS (si σ 2 3) k n) 5 w = si (si (s_newS σ k n) 2 3) 5 w := by
  obtain ⟨I, v, A, p⟩ := σ
  have d : upd I 2 3 8 = I 8 := by unfold upd; rw [if_neg (by decide)]
  unfold si s_newS
  dsimp only
  simp only [d]
  rw [line_I]
theorem si2 (σ : sg) (w : Int32) : (si (si σ 2 3) 5 w).2 = σ.2 ∧ (si (si σ 2 3) 5 w).1 2 = 3 ∧ (si (si σ 2 3) 5 w).1 5 = w ∧ (si (si σ 2 3) 5 w).1 12 = σ.1 12 ∧ (si (si σ 2 3) 5 w).1 6 = σ.1 6 ∧ (si (si σ 2 3) 5 w).1 16 = σ.1 16 ∧ (si (si σ 2 3) 5 w).1 14 = σ.1 14 ∧ (si (si σ 2 3) 5 w).1 8 = σ.1 8 := ⟨rfl, rfl, rfl, rfl, rfl, rfl, rfl, rfl⟩
theorem line_fin (h : cP G f nn σ R P ra pa) (hi : iv σ R P N D) (hR : R + 1 ≤ 4000) {s : Nat} (hs : s ≤ 4) (hlo : ∀ a : Nat, a < nn → f2 a = f a) (hN : f2 nn = .inr (1, [.int (nI 4), .int (nI s), .ref (nn + 1)]) ∧ f2 (nn + 1) = .inl (zg_c G 1, s, .inr (.inl (fun _ => 0)))) : cZ G f (t_line σ (nI s)) R (some (.int (a_line (nI s)))) (some (.int 1)) (va_up f2 (zg_B G + 2) (.inr (0, [.int 10, .long (nI s).toInt64, .ref nn])), nn + 1 + 1) := by
  have hn := h.1
  have h1 : s_rng (nI s) 0 4 = false := rng_f (nI_pos (by omega)) (by rw [show (4 : Int32) = nI 4 from rfl, nI_ltI (by decide) (by omega)]; omega)
  have ht : t_line σ (nI s) = si (si (s_newS σ (nI 4) (nI s)) 2 3) 5 (σ.1 8) := by
    simp only [t_line, h1, Bool.false_eq_true, if_false]
    exact line_eq _ _ _ _
  have hnew := cP_new h hi (k := 4) (s := s) (by decide) (by omega) hlo (fun _ => hN) (fun z => absurd (by decide) z)
  have hin := iv_new hi (k := 4) (s := s) (by decide) (by omega) hR
  have e9 : (s_newS σ (nI 4) (nI s)).2.2.1 9 R = 4 := by rw [new_9 hi, if_pos rfl]; rfl
  have e10 : (s_newS σ (nI 4) (nI s)).2.2.1 10 R = nI s := by rw [new_10 hi, if_pos rfl]
  have e8 := hi.1.1
  have hR0 := hi.1.2
  rw [ht, show a_line (nI s) = 1 by simp only [a_line, h1, Bool.false_eq_true, if_false]]
  generalize s_newS σ (nI 4) (nI s) = σn at *
  rw [e8]
  obtain ⟨q0, q2, q5, q12, q6, q16, q14, q8⟩ := si2 σn (nI R)
  have hg : hcell (va_up ra R nn) pa (si (si σn 2 3) 5 (nI R)) = .inr (0, [.int 10, .long (nI s).toInt64, .ref nn]) := by
    have v : s_val (si (si σn 2 3) 5 (nI R)) = (xS σn (nI R)).toInt64 := rfl
    have w : s_has (si (si σn 2 3) 5 (nI R)) = 10 := rfl
    unfold hcell
    rw [v, w, q2, q5, adr_3 _ _ (by omega), xs (by omega), e10]
    unfold va_up; rw [if_pos rfl]; rfl
  refine ⟨rfl, ⟨R + 1, P, N, D, va_up ra R nn, pa, Nat.le_refl _, ?_, ?_⟩, fun a h1 h2 => ?_⟩
  · refine iv_gg hin (by rw [q0]) q8 q6 q12 q14 ?_
    rw [q2, q5]
    exact Or.inr (Or.inr (Or.inr ⟨rfl, R, by omega, rfl, e9⟩))
  · rw [← hg]
    exact cP_gauge hnew (by rw [q0]) q12 q6 q16 q14
  · show va_up f2 (zg_B G + 2) _ a = f a
    exact (vne (by omega)).trans (hlo a (by omega))
theorem line_no (σ : sg) {n : Int32} (h : n < 0 ∨ ¬ n ≤ 4) : a_line n = -2 ∧ t_line σ n = σ := by
  have h2 : s_rng n 0 4 = true := rng_t (h.imp id Int32.not_le.mp)
  simp only [a_line, t_line, h2, if_true]; exact ⟨trivial, trivial⟩
/-! probes -/
def s_pr (σ : sg) (P : Nat) (b : Int32) : sg := si (si (sa (si σ 6 (nI (P + 1))) 7 (P + 1) b) 2 2) 5 (nI (P + 1))
theorem pr_f (σ : sg) (P : Nat) (b : Int32) : (s_pr σ P b).1 = upd (upd (upd σ.1 6 (nI (P + 1))) 2 2) 5 (nI (P + 1)) ∧ (s_pr σ P b).2.1 = σ.2.1 ∧ (s_pr σ P b).2.2.1 = va_up σ.2.2.1 7 (upd (σ.2.2.1 7) (P + 1) b) ∧ (s_pr σ P b).2.2.2 = σ.2.2.2 := ⟨rfl, rfl, rfl, rfl⟩
theorem pr_A (σ : sg) (P : Nat) (b : Int32) (k : Nat) (hk : ¬ k = 7) : (s_pr σ P b).2.2.1 k = σ.2.2.1 k := by
  rw [(pr_f σ P b).2.2.1]; unfold va_up; rw [if_neg hk]
theorem pr_7 (σ : sg) (P : Nat) (b : Int32) (p : Nat) : (s_pr σ P b).2.2.1 7 p = if p = P + 1 then b else σ.2.2.1 7 p := by
  rw [(pr_f σ P b).2.2.1]; unfold va_up; rw [if_pos rfl]; rfl
theorem pr_1 (σ : sg) (P : Nat) (b : Int32) : (s_pr σ P b).1 2 = 2 ∧ (s_pr σ P b).1 5 = nI (P + 1) ∧ (s_pr σ P b).1 6 = nI (P + 1) ∧ (s_pr σ P b).1 8 = σ.1 8 ∧ (s_pr σ P b).1 12 = σ.1 12 ∧ (s_pr σ P b).1 14 = σ.1 14 ∧ (s_pr σ P b).1 16 = σ.1 16 ∧ (s_pr σ P b).1 3 = σ.1 3 := ⟨rfl, rfl, rfl, rfl, rfl, rfl, rfl, rfl⟩
theorem tw_mP {t w : Int32} (ht : tw R P t w) : tw R (P + 1) t w := by
  rcases ht with e | ⟨e, p, h1, h2, e2⟩ | e
  · exact Or.inl e
  · exact Or.inr (Or.inl ⟨e, p, h1, by omega, e2⟩)
  · exact Or.inr (Or.inr e)
theorem iv_pr (hi : iv σ R P N D) (hP : P < 40) (b : Int32) : iv (s_pr σ P b) R (P + 1) N D := by
  obtain ⟨a, p, c, d, e, g, h, m⟩ := hi
  obtain ⟨q2, q5, q6, q8, q12, q14, q16, q3⟩ := pr_1 σ P b
  refine ⟨by rw [q8]; exact a, ⟨q6, by omega⟩, by rw [q12]; exact c, by rw [q14]; exact d, fun r hr => ?_, ?_, fun q hq => ?_, fun k hk => ?_⟩
  · rw [pr_A _ _ _ 0 (by decide), pr_A _ _ _ 1 (by decide)]; exact tw_mP (e r hr)
  · rw [q2, q5]; exact Or.inr (Or.inr (Or.inl ⟨rfl, P + 1, by omega, by omega, rfl⟩))
  · have z := h q hq
    unfold rv at *
    rw [pr_A _ _ _ 9 (by decide), pr_A _ _ _ 10 (by decide), (pr_f σ P b).2.2.2]
    refine ⟨z.1, z.2.1, fun j hj => ?_⟩
    obtain ⟨p1, p2⟩ := z.2.2 j hj
    refine ⟨p1, fun hK => ?_⟩
    rcases p2 hK with u | ⟨u, pp, h1, h2, u1, u2⟩ | ⟨u, qq, h1, u1, u2⟩
    · exact Or.inl u
    · exact Or.inr (Or.inl ⟨u, pp, h1, by omega, u1, fun k9 => by rw [pr_7, if_neg (by omega)]; exact u2 k9⟩)
    · exact Or.inr (Or.inr ⟨u, qq, h1, u1, by rw [pr_A _ _ _ 9 (by decide)]; exact u2⟩)
  · have z := m k hk
    unfold stp at *
    rw [pr_A _ _ _ 13 (by decide)]; exact z
theorem cP_pr (h : cP G f nn σ R P ra pa) (hi : iv σ R P N D) (hP : P < 40) {b : Int32} (hlo : ∀ a : Nat, a < nn → ¬ a = zg_B G → ¬ a = zg_B G + 2 → f2 a = f a) (hB : f2 (zg_B G) = .inr (5, cob (zg_B G) (s_pr σ P b))) (h2 : f2 (zg_B G + 2) = .inr (0, [.int (if b = 0 then 8 else 9), .long (nI (P + 1)).toInt64, .ref nn])) (hn : f2 nn = .inr (2, [.int (nI (P + 1)), .int b])) : cP G f2 (nn + 1) (s_pr σ P b) R (P + 1) ra (va_up pa (P + 1) nn) := by
  have hR := hi.1.2
  have hP40 := hi.2.1.2
  obtain ⟨q2, q5, q6, q8, q12, q14, q16, q3⟩ := pr_1 σ P b
  obtain ⟨k1, k2, ⟨rg, k3, k3b⟩, k4, k5, k6, k7, k8, k9, k10, k11, k12⟩ := h
  have paq : ∀ q : Nat, q ≤ P → va_up pa (P + 1) nn q = pa q := fun q hq => by unfold va_up; rw [if_neg (by omega)]
  have paP : va_up pa (P + 1) nn (P + 1) = nn := by unfold va_up; rw [if_pos rfl]
  refine ⟨by omega, hB, ⟨rg, by rw [hlo _ (by omega) (by omega) (by omega)]; exact k3, fun r hr => ?_⟩, ?_, k5.imp (fun a h => h.imp (fun b h => h.imp (fun c h => by rw [hlo _ (by omega) (by omega) (by omega)]; exact h))), by rw [hlo _ (by omega) (by omega) (by omega)]; exact k6, fun j hj => ?_, by rw [hlo _ (by omega) (by omega) (by omega), pr_A _ _ _ 17 (by decide)]; exact k8, fun q hq => ?_, fun p hp1 hp2 => ?_, k11, fun p p2 hp1 hp2 hq1 hq2 e => ?_⟩
  · rw [pr_A _ _ _ 0 (by decide), pr_A _ _ _ 1 (by decide), adr_upP (hi.2.2.2.2.1 r hr) (by omega) (by omega)]; exact k3b r hr
  · rw [h2]
    have w : s_has (s_pr σ P b) = if b = 0 then 8 else 9 := by
      unfold s_has
      rw [q2, q5, xf (by omega), pr_7, if_pos rfl]; rfl
    have v : s_val (s_pr σ P b) = (nI (P + 1)).toInt64 := by
      unfold s_val
      rw [q2, q5]; rfl
    unfold hcell
    rw [v, w, q2, q5, adr_2 _ _ (by omega), paP]; rfl
  · obtain ⟨oc, a, b2⟩ := k7 j hj
    refine ⟨oc, ?_, ?_⟩
    · rw [hlo _ (by omega) (by omega) (by omega), pr_A _ _ _ 13 (by decide)]; exact a
    · rw [q12, q14, pr_A _ _ _ 15 (by decide)]; exact b2
  · have hr := k9 q hq
    have hsz := iv_sz hi q hq
    have hrv := hi.2.2.2.2.2.2.1 q hq
    unfold rowp at hr ⊢
    rw [pr_A _ _ _ 9 (by decide), pr_A _ _ _ 10 (by decide), (pr_f σ P b).2.2.2, hlo _ (by omega) (by omega) (by omega), hlo _ (by omega) (by omega) (by omega)]
    refine ⟨by omega, hr.2.1, fun hK => ?_⟩
    obtain ⟨x, thg, y, z⟩ := hr.2.2 hK
    exact ⟨x, thg, y, fun j hj => by rw [(adp_up hi (hrv.2.2 j (by omega)) hK nn).2]; exact z j hj⟩
  · unfold prbp
    by_cases hpP : p = P + 1
    · subst hpP
      rw [paP, pr_7, if_pos rfl]
      exact ⟨by omega, hn⟩
    · have hr := k10 p hp1 (by omega)
      unfold prbp at hr
      rw [paq p (by omega), pr_7, if_neg hpP, hlo _ (by omega) (by omega) (by omega)]
      exact ⟨by omega, hr.2⟩
  · by_cases h1 : p = P + 1
    · by_cases h2 : p2 = P + 1
      · omega
      · rw [h1, paP, paq p2 (by omega)] at e
        have := (k10 p2 hq1 (by omega)).1; omega
    · by_cases h2 : p2 = P + 1
      · rw [h2, paP, paq p (by omega)] at e
        have := (k10 p hp1 (by omega)).1; omega
      · rw [paq p (by omega), paq p2 (by omega)] at e
        exact k12 p p2 hp1 (by omega) hq1 (by omega) e
theorem pr_eq (hi : iv σ R P N D) (hP : P < 40) (b : Int32) : a_probe σ = nI (P + 1) ∧ t_probe σ b = s_pr σ P b := by
  have h : ¬ σ.1 6 = 40 := by rw [hi.2.1.1, show (40 : Int32) = nI 40 from rfl, nI_eq (by omega) (by decide)]; omega
  unfold a_probe t_probe
  rw [if_neg h, if_neg h, hi.2.1.1, nI_1, nI_clamp (by omega)]
  exact ⟨rfl, rfl⟩
theorem pr_no (hi : iv σ R P N D) (hP : ¬ P < 40) (b : Int32) : a_probe σ = -4 ∧ t_probe σ b = σ := by
  have h : σ.1 6 = 40 := by rw [hi.2.1.1, show P = 40 by have := hi.2.1.2; omega]; rfl
  unfold a_probe t_probe
  rw [if_pos h, if_pos h]; exact ⟨rfl, rfl⟩
end LPS
set_option maxRecDepth 20000 in
set_option maxHeartbeats 1000000 in
theorem xX_line {G : zh_G} {l : Launch} {f : Nat → va_E} {nn : Nat} {σ : sg} {R P N D : Nat} {ra pa : Nat → Nat} (h : cP G f nn σ R P ra pa) (hi : iv σ R P N D) (hR : R + 1 ≤ 4000) {n : Int32} : zc G l yX7_line cX7_line 2 (some .int) 4 [.ref (zg_B G), .int n] (f, nn) 2 19 (cZ G f (t_line σ n) R (some (.int (a_line n)))) := by
  refine zc.of (by decide) (Nat.le_of_ble_eq_true rfl) ?_
  obtain ⟨rg, er, er2⟩ := c_r h
  have b0 : zg_B G < nn := c_b (x := 0) (by decide) h
  have b1 : zg_B G + 1 < nn := c_b (by decide) h
  have b2 : zg_B G + 2 < nn := c_b (by decide) h
  have b4 : zg_B G + 4 < nn := c_b (by decide) h
  have b17 : zg_B G + 17 < nn := c_b (by decide) h
  refine zv_iload_n dX7_line_0 rfl ?_
  refine zv_if_lt (tgt := 9) dX7_line_1 (by decide) (fun c1 => ?_) (fun c1 => ?_)
  · skip
    refine zv_bipushv (v := (-2)) dX7_line_9 (by decide) ?_
    exact zv_ireturn dX7_line_11 rfl (by first | (have z := line_no σ (n := n) (Or.inl c1); rw [z.1, z.2]; exact ⟨rfl, ⟨R, P, N, D, ra, pa, by omega, hi, h⟩, fun _ _ _ => rfl⟩) | (have z := line_no σ (n := n) (Or.inr c6); rw [z.1, z.2]; exact ⟨rfl, ⟨R, P, N, D, ra, pa, by omega, hi, h⟩, fun _ _ _ => rfl⟩))
  · skip
    refine zv_iload_n dX7_line_4 rfl ?_
    refine zv_iconstv (v := 4) dX7_line_5 (by decide) ?_
    refine zv_icmp_le (tgt := 12) dX7_line_6 (by decide) (fun c6 => ?_) (fun c6 => ?_)
    · skip
      obtain ⟨s, hs4, rfl⟩ := rng4 c1 c6
      have hs16 : s ≤ 16 := by omega
      refine zv_aload_n dX7_line_12 rfl ?_
      refine zv_get (ci := 5) (fs := cob (zg_B G) σ) zf_X7_18_5 (c_o h) (Nat.le_refl _) b0 rfl dX7_line_13 ?_
      refine zv_new (N := 3) (mc := 1) (ms := 16) zn_X7_43 dX7_line_16 ?_
      refine zv_dup dX7_line_19 rfl ?_
      refine zv_iconstv (v := 4) dX7_line_20 (by decide) ?_
      refine zv_iload_n dX7_line_21 rfl ?_
      refine zv_callIq (mc := 0) (ms := 0) zm_X7_45 zkyX1_init (cX_iX1 hs16 veq (by omega) (by omega)) rfl rfl (Nat.le_of_ble_eq_true rfl) (by decide) dX7_line_22 ?_
      dsimp only
      refine zv_callVq (ci := 0) (mc := 0) (ms := 0) zm_X7_68 zkyX0_holdThing ((vne (by omega)).trans ((vne (by omega)).trans ((vne (by omega)).trans (c_g h)))) (by omega) (by omega) rfl rfl (cX_holdTR ((vne (by omega)).trans ((vne (by omega)).trans ((vne (by omega)).trans (c_g h)))) (by omega) (by omega) veq (by omega) (by omega) (by omega)) rfl rfl (Nat.le_of_ble_eq_true rfl) (by decide) dX7_line_25 ?_
      refine zv_iconstv (v := 1) dX7_line_28 (by decide) ?_
      exact zv_ireturn dX7_line_29 rfl (line_fin h hi hR hs4 (fun a ha => by rw [vne (by omega), vne (by omega), vne (by omega)]) ⟨veq, by rw [vne (by omega)]; exact veq⟩)
    · skip
      refine zv_bipushv (v := (-2)) dX7_line_9 (by decide) ?_
      exact zv_ireturn dX7_line_11 rfl (by first | (have z := line_no σ (n := n) (Or.inl c1); rw [z.1, z.2]; exact ⟨rfl, ⟨R, P, N, D, ra, pa, by omega, hi, h⟩, fun _ _ _ => rfl⟩) | (have z := line_no σ (n := n) (Or.inr c6); rw [z.1, z.2]; exact ⟨rfl, ⟨R, P, N, D, ra, pa, by omega, hi, h⟩, fun _ _ _ => rfl⟩))
set_option maxRecDepth 20000 in
set_option maxHeartbeats 1000000 in
theorem xX_probe {G : zh_G} {l : Launch} {f : Nat → va_E} {nn : Nat} {σ : sg} {R P N D : Nat} {ra pa : Nat → Nat} (h : cP G f nn σ R P ra pa) (hi : iv σ R P N D) {b : Int32} (hb : narrow .boolean (.int b) = .int b) (hb2 : fits .boolean (.int b) = true) : zc G l yX7_probe cX7_probe 2 (some .int) 3 [.ref (zg_B G), .int b] (f, nn) 1 2 (cZ G f (t_probe σ b) R (some (.int (a_probe σ)))) := by
  refine zc.of (by decide) (Nat.le_of_ble_eq_true rfl) ?_
  obtain ⟨rg, er, er2⟩ := c_r h
  have b0 : zg_B G < nn := c_b (x := 0) (by decide) h
  have b1 : zg_B G + 1 < nn := c_b (by decide) h
  have b2 : zg_B G + 2 < nn := c_b (by decide) h
  have b4 : zg_B G + 4 < nn := c_b (by decide) h
  have b17 : zg_B G + 17 < nn := c_b (by decide) h
  refine zv_aload_n dX7_probe_0 rfl ?_
  refine zv_get (ci := 5) (fs := cob (zg_B G) σ) zf_X7_59_5 (c_o h) (Nat.le_refl _) b0 rfl dX7_probe_1 ?_
  refine zv_bipushv (v := 40) dX7_probe_4 (by decide) ?_
  refine zv_icmp_lt (tgt := 12) dX7_probe_6 (by decide) (fun c6 => ?_) (fun c6 => ?_)
  · skip
    have hP : P < 40 := by rw [hi.2.1.1, show (40 : Int32) = nI 40 from rfl, nI_ltI (by have := hi.2.1.2; omega) (by decide)] at c6; exact c6
    refine zv_aload_n dX7_probe_12 rfl ?_
    refine zv_dup dX7_probe_13 rfl ?_
    refine zv_get (ci := 5) (fs := cob (zg_B G) σ) zf_X7_59_5 (c_o h) (Nat.le_refl _) b0 rfl dX7_probe_14 ?_
    refine zv_iconstv (v := 1) dX7_probe_17 (by decide) ?_
    refine zv_iadd dX7_probe_18 ?_
    rw [hi.2.1.1, nI_1]
    refine zv_put (fs := cob (zg_B G) σ) zfw_X7_59_5 (c_o h) (Nat.le_refl _) b0 rfl rfl (by simp [cob]) dX7_probe_19 ?_
    have eB : (cob (zg_B G) σ).set 6 (.int (nI (P + 1))) = cob (zg_B G) (s_pr σ P b) := by unfold cob; rw [(pr_1 σ P b).2.2.1, (pr_1 σ P b).2.2.2.2.1, (pr_1 σ P b).2.2.2.2.2.2.1]; rfl
    rw [eB]
    refine zv_aload_n dX7_probe_22 rfl ?_
    refine zv_get (ci := 5) (fs := cob (zg_B G) (s_pr σ P b)) zf_X7_18_5 veq (Nat.le_refl _) b0 rfl dX7_probe_23 ?_
    refine zv_new (N := 2) (mc := 0) (ms := 0) zn_X7_63 dX7_probe_26 ?_
    dsimp only
    refine zv_dup dX7_probe_29 rfl ?_
    refine zv_aload_n dX7_probe_30 rfl ?_
    refine zv_get (ci := 5) (fs := cob (zg_B G) (s_pr σ P b)) zf_X7_59_5 ((vne (by omega)).trans veq) (Nat.le_refl _) (by omega) rfl dX7_probe_31 ?_
    rw [(pr_1 σ P b).2.2.1]
    refine zv_iload_n dX7_probe_34 rfl ?_
    refine zv_callIq (mc := 0) (ms := 0) zm_X7_65 zkyX2_init (cX_iProbe veq (by omega) (by omega) hb hb2) rfl rfl (Nat.le_of_ble_eq_true rfl) (by decide) dX7_probe_35 ?_
    refine zv_callVq (ci := 0) (mc := 0) (ms := 0) zm_X7_68 zkyX0_holdThing ((vne (by omega)).trans ((vne (by omega)).trans ((vne (by omega)).trans (c_g h)))) (by omega) (by omega) rfl rfl (cX_holdTP ((vne (by omega)).trans ((vne (by omega)).trans ((vne (by omega)).trans (c_g h)))) (by omega) (by omega) veq (by omega) (by omega) (by omega)) rfl rfl (Nat.le_of_ble_eq_true rfl) (by decide) dX7_probe_38 ?_
    refine zv_aload_n dX7_probe_41 rfl ?_
    refine zv_get (ci := 5) (fs := cob (zg_B G) (s_pr σ P b)) zf_X7_59_5 ((vne (by omega)).trans ((vne (by omega)).trans ((vne (by omega)).trans veq))) (Nat.le_refl _) (by omega) rfl dX7_probe_42 ?_
    rw [(pr_1 σ P b).2.2.1]
    refine zv_ireturn dX7_probe_45 rfl ?_
    rw [(pr_eq hi hP b).1, (pr_eq hi hP b).2]
    have hn := h.1
    refine ⟨rfl, ⟨R, P + 1, N, D, ra, va_up pa (P + 1) nn, by omega, iv_pr hi hP b, cP_pr h hi hP (fun a h1 h2 h3 => ?_) ?_ veq ?_⟩, fun a h1 h2 => ?_⟩
    · exact (vne (by omega)).trans ((vne (by omega)).trans ((vne (by omega)).trans (vne (by omega))))
    · exact (vne (by omega)).trans ((vne (by omega)).trans ((vne (by omega)).trans veq))
    · exact (vne (by omega)).trans veq
    · exact (vne (by omega)).trans ((vne (by omega)).trans ((vne (by omega)).trans (vne (by omega))))
  · skip
    refine zv_bipushv (v := (-4)) dX7_probe_9 (by decide) ?_
    exact zv_ireturn dX7_probe_11 rfl (by have z := pr_no hi (fun hP => c6 (by rw [hi.2.1.1, show (40 : Int32) = nI 40 from rfl, nI_ltI (by omega) (by decide)]; exact hP)) b; rw [z.1, z.2]; exact ⟨rfl, ⟨R, P, N, D, ra, pa, by omega, hi, h⟩, fun _ _ _ => rfl⟩)
