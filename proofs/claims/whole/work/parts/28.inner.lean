theorem zc.ofr {G : zh_G} {l : Launch} {y : MethodName} {cc : ByteArray} {n : Nat} {r : Option FieldType} {d mc ms0 : Nat} {h : zh_H} {Q : Option Value → zh_H → Prop} (hp : plainName y.cls = true) {av : List Value} (lv0 : List (Nat × Value)) (hlv : lv_args 0 av = lv0) (hsl : (lg_sl av).length ≤ n) (kk : zv G l y cc n r d mc ms0 0 lv0 [] h Q) : zc G l y cc n r d av h mc ms0 Q := zc.of hp hsl (by rw [hlv]; exact kk)
section INN
variable {G : zh_G} {l : Launch} {f : Nat → va_E} {nn : Nat} {σ : sg} {R P N D : Nat} {ra pa : Nat → Nat}
theorem gets_N {q j : Nat} (hR : q < 4000) (hj : j < 16) (hK : σ.2.2.1 9 q < 8) : s_gets σ (nI q) (nI j) = s_hold σ (σ.2.2.1 9 q) (σ.2.2.2 (16 * q + j)) := by
  unfold s_gets; rw [xk (by omega), if_pos hK, xp (by omega) hj]
theorem gets_T {q j : Nat} (hR : q < 4000) (hj : j < 16) (hK : ¬ σ.2.2.1 9 q < 8) : s_gets σ (nI q) (nI j) = si (si σ 2 (if σ.2.2.2 (16 * q + j) = 0 then 0 else if σ.2.2.1 9 q = 10 then 3 else 2)) 5 (if σ.2.2.1 9 q = 10 then σ.2.2.2 (16 * q + j) - 1 else σ.2.2.2 (16 * q + j)).toInt32 := by
  unfold s_gets; rw [xk (by omega), if_neg hK, xp (by omega) hj]
theorem gets_A (w i : Int32) : (s_gets σ w i).2.2 = σ.2.2 := by unfold s_gets; split <;> rfl
theorem gets_1 (w i : Int32) {k : Nat} (h2 : ¬ k = 2) (h3 : ¬ k = 3) (h5 : ¬ k = 5) : (s_gets σ w i).1 k = σ.1 k := by
  unfold s_gets
  split
  · show upd (upd σ.1 2 1) 3 _ k = σ.1 k
    unfold upd; rw [if_neg h3, if_neg h2]
  · show upd (upd σ.1 2 _) 5 _ k = σ.1 k
    unfold upd; rw [if_neg h5, if_neg h2]
/-- what lies at a place: the gauge's words for it -/
theorem gets_gv (hi : iv σ R P N D) {q j : Nat} (hq : q < R) (hj : j < 16) : gv σ.2.2.1 R P ((s_gets σ (nI q) (nI j)).1 2) ((s_gets σ (nI q) (nI j)).1 3) (s_gets σ (nI q) (nI j)).2.1 ((s_gets σ (nI q) (nI j)).1 5) ∧ (¬ σ.2.2.1 9 q < 8 → tw R P ((s_gets σ (nI q) (nI j)).1 2) ((s_gets σ (nI q) (nI j)).1 5)) := by
  have hR := hi.1.2
  obtain ⟨⟨k, hk10, ek⟩, -, hpv⟩ := hi.2.2.2.2.2.2.1 q hq
  by_cases hK : σ.2.2.1 9 q < 8
  · rw [gets_N (by omega) hj hK]
    refine ⟨Or.inr (Or.inl ⟨rfl, ⟨k, by rw [ek] at hK; exact (nI_lt8 hk10).mp hK, ek⟩, (hpv j hj).1 hK⟩), fun h => absurd hK h⟩
  · rw [gets_T (by omega) hj hK]
    rcases (hpv j hj).2 hK with hv | ⟨hk, p, hp1, hp2, hv, -⟩ | ⟨hk, q2, hq2, hv, h4⟩
    · rw [hv, if_pos rfl]
      exact ⟨Or.inl rfl, fun _ => Or.inl rfl⟩
    · have hP := hi.2.1.2
      rw [hv, if_neg (lN_ne0 hp1 (by omega)), if_neg hk, if_neg hk, lN_nI]
      exact ⟨Or.inr (Or.inr (Or.inl ⟨rfl, p, hp1, hp2, rfl⟩)), fun _ => Or.inr (Or.inl ⟨rfl, p, hp1, hp2, rfl⟩)⟩
    · rw [hv, hk, if_neg (lN_ne0 (by omega) (by omega)), if_pos rfl, if_pos rfl, lN_pred, lN_nI]
      exact ⟨Or.inr (Or.inr (Or.inr ⟨rfl, q2, hq2, rfl, h4⟩)), fun _ => Or.inr (Or.inr ⟨rfl, q2, hq2, rfl⟩)⟩
/-- no fault: it is a row, and the index is one of it -/
theorem gF_q (hi : iv σ R P N D) {t w i : Int32} (ht : tw R P t w) (h : s_gF σ t w i = 0) : ∃ q j s : Nat, q < R ∧ s ≤ 16 ∧ j < s ∧ t = 3 ∧ w = nI q ∧ i = nI j ∧ σ.2.2.1 10 q = nI s := by
  obtain ⟨h3, ho⟩ := gF_out h
  subst h3
  rcases ht with e | ⟨e, -⟩ | ⟨-, q, hq, rfl⟩
  · exact absurd e (by decide)
  · exact absurd e (by decide)
  · have hR := hi.1.2
    obtain ⟨-, ⟨s, hs, es⟩, -⟩ := hi.2.2.2.2.2.2.1 q hq
    rw [xs (by omega), es, co_out i hs] at ho
    obtain ⟨j, hj, rfl⟩ := vp_in_of (co_in hs ho) (by omega)
    exact ⟨q, j, s, hq, hs, hj, rfl, rfl, rfl, es⟩
theorem nk_has (hi : iv σ R P N D) {q j : Nat} (hq : q < R) (hj : j < 16) : (!(s_rng (s_has (s_gets σ (nI q) (nI j))) 0 7)) = decide (σ.2.2.1 9 q < 8) := by
  obtain ⟨⟨k, hk10, ek⟩, -, hpv⟩ := hi.2.2.2.2.2.2.1 q hq
  have hR := hi.1.2
  by_cases hK : σ.2.2.1 9 q < 8
  · rw [gets_N (by omega) hj hK]
    have : s_has (s_hold σ (σ.2.2.1 9 q) (σ.2.2.2 (16 * q + j))) = nI k := by rw [has_1 rfl]; exact ek
    rw [this]
    have hk8 : k < 8 := by rw [ek] at hK; exact (nI_lt8 hk10).mp hK
    rw [decide_eq_true hK]
    match k, hk8 with
    | 0, _ => decide +kernel
    | 1, _ => decide +kernel
    | 2, _ => decide +kernel
    | 3, _ => decide +kernel
    | 4, _ => decide +kernel
    | 5, _ => decide +kernel
    | 6, _ => decide +kernel
    | 7, _ => decide +kernel
  · rw [decide_eq_false hK, gets_T (by omega) hj hK]
    rcases (hpv j hj).2 hK with hv | ⟨hk, p, hp1, hp2, hv, -⟩ | ⟨hk, q2, hq2, hv, h4⟩
    · rw [hv, if_pos rfl, has_0 rfl]; decide +kernel
    · have hP := hi.2.1.2
      rw [hv, if_neg (lN_ne0 hp1 (by omega)), if_neg hk, if_neg hk, has_2 rfl]
      split <;> decide +kernel
    · rw [hv, hk, if_neg (lN_ne0 (by omega) (by omega)), if_pos rfl, if_pos rfl, has_3 rfl]; decide +kernel
set_option maxHeartbeats 1000000 in
theorem u_inner (h : cP G f nn σ R P ra pa) (hi : iv σ R P N D) {t w i : Int32} (ht : tw R P t w) : zc G l yX7_takeInner cX7_takeInner 4 (some .int) 3 [.ref (zg_B G), va_rf (adr ra pa t w), .int i] (f, nn) 0 0 (fun o h' => o = some (.int (if s_gF σ t w i = 0 then (if xK σ w < 8 then 2 else 0) else s_gF σ t w i)) ∧ h' = (if s_gF σ t w i = 0 then va_up f (zg_B G + 3) (hcell ra pa (s_gets σ w i)) else f, nn)) := by
  refine zc.ofr (by decide) [(0, .ref (zg_B G)), (1, va_rf (adr ra pa t w)), (2, .int i)] (by generalize adr ra pa t w = o; cases o <;> rfl) (by generalize adr ra pa t w = o; cases o <;> exact Nat.le_of_ble_eq_true rfl) ?_
  obtain ⟨hk, hv, htt, e3⟩ := c_h h
  have b0 : zg_B G < nn := c_b (x := 0) (by decide) h
  have b3 : zg_B G + 3 < nn := c_b (by decide) h
  refine zv_aloadr_n dX7_takeInner_0 rfl ?_
  refine zv_iload_n dX7_takeInner_1 rfl ?_
  refine zv_aload_n dX7_takeInner_2 rfl ?_
  refine zv_get zf_X7_22_5 (c_o h) (Nat.le_refl _) b0 rfl dX7_takeInner_3 ?_
  refine zv_callSq (mc := 0) (ms := 0) zm_X7_72 zkyX7_getPlace (u_get h hi ht e3 (by omega) (by omega)) rfl rfl (Nat.le_of_ble_eq_true rfl) (by decide) dX7_takeInner_6 ?_
  refine zv_istore_n dX7_takeInner_9 (by decide) ?_
  refine zv_iload_n dX7_takeInner_10 rfl ?_
  refine zv_if_eq (tgt := 16) dX7_takeInner_11 (by decide) (fun c11 => ?_) (fun c11 => ?_)
  · obtain ⟨q, j, s, hq, hs, hj, rfl, rfl, rfl, es⟩ := gF_q hi ht c11
    have hR := hi.1.2
    rw [if_pos c11, if_pos c11, xk (by omega)]
    refine zv_aload_n dX7_takeInner_16 rfl ?_
    refine zv_get (ci := 5) (fs := cob (zg_B G) σ) zf_X7_22_5 ((vne (by omega)).trans (c_o h)) (Nat.le_refl _) b0 rfl dX7_takeInner_17 ?_
    refine zv_get (ci := 0) (fs := [.int (s_has (s_gets σ (nI q) (nI j))), .long (s_val (s_gets σ (nI q) (nI j))), va_rf (adr ra pa ((s_gets σ (nI q) (nI j)).1 2) ((s_gets σ (nI q) (nI j)).1 5))]) zf_X7_76_0 veq (by omega) b3 rfl dX7_takeInner_20 ?_
    refine zv_callSq (mc := 0) (ms := 0) zm_X7_40 zkyX7_isNumberKind cX_isNK rfl rfl (Nat.le_of_ble_eq_true rfl) (by decide) dX7_takeInner_23 ?_
    rw [nk_has hi hq (by omega)]
    refine zv_if_eq (tgt := 33) dX7_takeInner_26 (by decide) (fun c => ?_) (fun c => ?_)
    · refine zv_iconstv (v := 0) dX7_takeInner_33 (by decide) ?_
      have : ¬ σ.2.2.1 9 q < 8 := by simpa using zb_0.mp c
      exact zv_ireturn dX7_takeInner_34 rfl ⟨by rw [if_neg this], rfl⟩
    · refine zv_iconstv (v := 2) dX7_takeInner_29 (by decide) ?_
      refine zv_goto (tgt := 34) dX7_takeInner_30 (by decide) ?_
      have : σ.2.2.1 9 q < 8 := by simpa using zb_n.mp c
      exact zv_ireturn dX7_takeInner_34 rfl ⟨by rw [if_pos this], rfl⟩
  · refine zv_iload_n dX7_takeInner_14 rfl ?_
    exact zv_ireturn dX7_takeInner_15 rfl ⟨by rw [if_neg c11], rfl⟩
theorem iv_sg {σ2 : sg} (hi : iv σ R P N D) (hA : σ2.2.2 = σ.2.2) (h8 : σ2.1 8 = σ.1 8) (h6 : σ2.1 6 = σ.1 6) (h12 : σ2.1 12 = σ.1 12) (h14 : σ2.1 14 = σ.1 14) (hg : gv σ.2.2.1 R P (σ2.1 2) (σ2.1 3) σ2.2.1 (σ2.1 5)) : iv σ2 R P N D := by
  obtain ⟨a, b, c, d, e, g, h, k⟩ := hi
  refine ⟨by rw [h8]; exact a, by rw [h6]; exact b, by rw [h12]; exact c, by rw [h14]; exact d, by rw [hA]; exact e, by rw [hA]; exact hg, ?_, ?_⟩
  · unfold rv at *; rw [hA]; exact h
  · unfold stp at *; rw [hA]; exact k
theorem fiS_p (r i : Int32) : (s_fiS σ r i).2.2 = σ.2.2 ∧ (s_fiS σ r i).2.1 = σ.2.1 ∧ ∀ k : Nat, ¬ k = 18 → ¬ k = 19 → (s_fiS σ r i).1 k = σ.1 k := by
  unfold s_fiS
  split
  · refine ⟨rfl, rfl, fun k h1 h2 => ?_⟩
    show upd (upd σ.1 18 _) 19 _ k = σ.1 k
    unfold upd; rw [if_neg h2, if_neg h1]
  · exact ⟨rfl, rfl, fun _ _ _ => rfl⟩
theorem cP_fi (h : cP G f nn σ R P ra pa) (r i : Int32) : cP G f nn (s_fiS σ r i) R P ra pa := by
  obtain ⟨hA, hv, hk⟩ := fiS_p (σ := σ) r i
  exact cP_sg h hA (hk _ (by decide) (by decide)) (hk _ (by decide) (by decide)) (hk _ (by decide) (by decide)) (hk _ (by decide) (by decide)) (hk _ (by decide) (by decide)) (hk _ (by decide) (by decide)) (hk _ (by decide) (by decide)) hv
theorem iv_fi (hi : iv σ R P N D) (r i : Int32) : iv (s_fiS σ r i) R P N D := by
  obtain ⟨hA, hv, hk⟩ := fiS_p (σ := σ) r i
  refine iv_sg hi hA (hk _ (by decide) (by decide)) (hk _ (by decide) (by decide)) (hk _ (by decide) (by decide)) (hk _ (by decide) (by decide)) ?_
  rw [hk _ (by decide) (by decide), hk _ (by decide) (by decide), hk _ (by decide) (by decide), hv]; exact hi.2.2.2.2.2.1
theorem iv_tw (hi : iv σ R P N D) {r : Int32} (hr : vp_in r 10) : tw R P (xT σ r) (xW σ r) := by
  obtain ⟨j, hj, rfl⟩ := vp_in_of hr (by decide)
  unfold xT xW; rw [nI_clamp (by omega)]
  exact hi.2.2.2.2.1 j hj
/-- the inner thing, as the reference finds it -/
theorem fi_in (hi : iv σ R P N D) {r i : Int32} (hr : vp_in r 10) (h0 : s_gF σ (xT σ r) (xW σ r) i = 0) (hK : ¬ xK σ (xW σ r) < 8) : tw R P ((s_gets σ (xW σ r) i).1 2) ((s_gets σ (xW σ r) i).1 5) ∧ (s_fiS σ r i).1 18 = (s_gets σ (xW σ r) i).1 2 ∧ ((s_gets σ (xW σ r) i).1 2 = 3 → (s_fiS σ r i).1 19 = (s_gets σ (xW σ r) i).1 5) := by
  obtain ⟨q, j, s, hq, hs, hj, e3, ew, ei, es⟩ := gF_q hi (iv_tw hi hr) h0
  have hR := hi.1.2
  obtain ⟨⟨k, hk10, ek⟩, -, hpv⟩ := hi.2.2.2.2.2.2.1 q hq
  have hfi : s_fiS σ r i = si (si σ 18 (s_fiT σ (xW σ r) i)) 19 (if s_fiT σ (xW σ r) i = 3 then (xP σ (xW σ r) i).toInt32 - 1 else 0) := by unfold s_fiS; rw [if_pos h0]
  rw [hfi, ew, ei]
  rw [ew, xk (by omega)] at hK
  have hT : s_fiT σ (nI q) (nI j) = (s_gets σ (nI q) (nI j)).1 2 := by
    rw [gets_T (by omega) (by omega) hK]
    unfold s_fiT
    rw [xk (by omega), if_neg hK, xp (by omega) (by omega)]; rfl
  refine ⟨(gets_gv hi hq (by omega)).2 hK, hT, fun h3 => ?_⟩
  show (if s_fiT σ (nI q) (nI j) = 3 then (xP σ (nI q) (nI j)).toInt32 - 1 else 0) = _
  rw [hT, if_pos h3, xp (by omega) (by omega)]
  rw [gets_T (by omega) (by omega) hK] at h3 ⊢
  rcases (hpv j (by omega)).2 hK with hv | ⟨hk, p, hp1, hp2, hv, -⟩ | ⟨hk, q2, hq2, hv, h4⟩
  · rw [hv, if_pos rfl] at h3; exact absurd (show (0 : Int32) = 3 from h3) (by decide)
  · have hP := hi.2.1.2
    rw [hv, if_neg (lN_ne0 hp1 (by omega)), if_neg hk] at h3; exact absurd (show (2 : Int32) = 3 from h3) (by decide)
  · rw [hv, hk]
    show (lN (q2 + 1)).toInt32 - 1 = (if (10 : Int32) = 10 then lN (q2 + 1) - 1 else _).toInt32
    rw [if_pos rfl, lN_pred, lN_nI, lN_nI, nI_pred]
theorem rF_tw {σ2 : sg} {t w t2 w2 i to : Int32} (hA : σ2.2.2 = σ.2.2) (ht : t2 = t) (hw : t = 3 → w2 = w) : s_rF σ2 t2 w2 i to = s_rF σ t w i to := by
  subst ht
  by_cases h3 : t2 = 3
  · rw [hw h3]; unfold s_rF xK xS; rw [hA]
  · unfold s_rF; rw [if_pos h3, if_pos h3]
theorem wF_tw {σ2 : sg} {t w t2 w2 i to : Int32} (hA : σ2.2.2 = σ.2.2) (ht : t2 = t) (hw : t = 3 → w2 = w) : s_wF σ2 t2 w2 i to = s_wF σ t w i to := by
  subst ht
  by_cases h3 : t2 = 3
  · rw [hw h3]; unfold s_wF xK xS; rw [hA]
  · unfold s_wF; rw [if_pos h3, if_pos h3]
end INN
