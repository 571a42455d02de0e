theorem rng7 {k : Int32} (h : s_rng k 0 7 = false) : ∃ b : Nat, b < 8 ∧ k = nI b := by
  have hv : vp_in k 8 := by
    rw [vp_in_iff]
    unfold s_rng at h
    simp only [decide_eq_false_iff_not, not_or, Int32.not_lt, Int32.le_iff_toInt_le] at h
    have h1 : (0 : Int32).toInt = 0 := by decide
    have h2 : (7 : Int32).toInt = 7 := by decide
    omega
  exact vp_in_of hv (by decide)
theorem cP_getS {G : zh_G} {f : Nat → va_E} {nn : Nat} {σ : sg} {R P : Nat} {ra pa : Nat → Nat} (h : cP G f nn σ R P ra pa) (r i : Int32) : cP G (if s_gF σ (xT σ r) (xW σ r) i = 0 then va_up f (zg_B G + 2) (hcell ra pa (s_gets σ (xW σ r) i)) else f) nn (s_getS σ r i) R P ra pa := by
  unfold s_getS
  by_cases hz : s_gF σ (xT σ r) (xW σ r) i = 0
  · rw [if_pos hz, if_pos hz]; exact cP_get (t := 0) h
  · rw [if_neg hz, if_neg hz]; exact h
theorem kp_if {G : zh_G} {f : Nat → va_E} {c : Prop} [Decidable c] {x : Nat} {e : va_E} (hx : x < zg_B G + 18) : ∀ a : Nat, zg_B G + 18 ≤ a → a < zg_B G + 28 → (if c then va_up f x e else f) a = f a := by
  intro a h1 h2
  split
  · exact vne (by omega)
  · rfl
theorem szF_eq (σ : sg) (r : Int32) : (if xT σ r = 0 then (1 : Int32) else if ¬ xT σ r = 3 then 2 else 0) = s_szF σ r := rfl
theorem ans_g {k a b : Int32} (hk : vp_in k 4) (h : k = 0 → a = b) : s_ans k a = s_ans k b := by
  unfold s_ans
  by_cases hz : k ≤ 0
  · rw [if_pos hz, if_pos hz, h ((le0_4 hk).mp hz)]
  · rw [if_neg hz, if_neg hz]
theorem sa_w (σ : sg) (r : Int32) : va_up σ.2.2.1 0 (upd (σ.2.2.1 0) r.toNatClampNeg 0) = va_up (va_up σ.2.2.1 0 (upd (σ.2.2.1 0) r.toNatClampNeg 0)) 1 (upd (σ.2.2.1 1) r.toNatClampNeg (xW σ r)) := by
  funext k j
  unfold va_up upd
  by_cases h1 : k = 1
  · subst h1
    simp only [if_true]
    by_cases h2 : j = r.toNatClampNeg
    · subst h2; simp
    · simp [h2]
  · simp [h1]
set_option maxRecDepth 20000 in
set_option maxHeartbeats 1000000 in
theorem xX_empty {G : zh_G} {l : Launch} {f : Nat → va_E} {nn : Nat} {σ : sg} {R P N D : Nat} {ra pa : Nat → Nat} (h : cP G f nn σ R P ra pa) (hi : iv σ R P N D) {r : Int32} : zc G l yX7_empty cX7_empty 2 (some .int) 1 [.ref (zg_B G), .int r] (f, nn) 0 0 (cN G f nn (t_empty σ r) R P ra pa (some (.int (a_empty r)))) := by
  refine zc.of (by decide) (Nat.le_of_ble_eq_true rfl) ?_
  obtain ⟨rg, er, er2⟩ := c_r h
  have b0 : zg_B G < nn := c_b (x := 0) (by decide) h
  have b1 : zg_B G + 1 < nn := c_b (by decide) h
  have b2 : zg_B G + 2 < nn := c_b (by decide) h
  have b4 : zg_B G + 4 < nn := c_b (by decide) h
  have b17 : zg_B G + 17 < nn := c_b (by decide) h
  refine zv_iload_n dX7_empty_0 rfl ?_
  refine zv_callSq (mc := 0) (ms := 0) zm_X7_36 zkyX7_isRack cX_isRack rfl rfl (Nat.le_of_ble_eq_true rfl) (by decide) dX7_empty_1 ?_
  refine zv_if_ne (tgt := 9) dX7_empty_4 (by decide) (fun c4 => ?_) (fun c4 => ?_)
  · skip
    have hs : s_no r = false := by simpa using zb_n.mp c4
    have hr : vp_in r 10 := no_in hs
    refine zv_aload_n dX7_empty_9 rfl ?_
    refine zv_get (ci := 5) (fs := cob (zg_B G) σ) zf_X7_11_5 (c_o h) (Nat.le_refl _) b0 rfl dX7_empty_10 ?_
    refine zv_iload_n dX7_empty_13 rfl ?_
    refine zv_null dX7_empty_14 ?_
    refine zv_aast3N er (by omega) b1 hr dX7_empty_15 ?_
    refine zv_iconstv (v := 1) dX7_empty_16 (by decide) ?_
    exact zv_ireturn dX7_empty_17 rfl ⟨by simp [a_empty, hs], rfl, by rw [show t_empty σ r = sa σ 0 r.toNatClampNeg 0 by simp [t_empty, hs]]; exact cP_rack h (t := 0) (w := xW σ r) er rfl (by unfold sa; refine Prod.ext ?_ rfl; exact sa_w σ r) rfl rfl, fun a h1 h2 => vne (by omega)⟩
  · skip
    have hs : s_no r = true := by simpa using zb_0.mp c4
    refine zv_iconstv (v := (-1)) dX7_empty_7 (by decide) ?_
    exact zv_ireturn dX7_empty_8 rfl ⟨by simp [a_empty, t_empty, hs], rfl, by simp [a_empty, t_empty, hs]; exact h, fun _ _ _ => rfl⟩
theorem zX_ast {G : zh_G} {l : Launch} {f : Nat → va_E} {nn : Nat} {σ : sg} {R P N D : Nat} {ra pa : Nat → Nat} {y : MethodName} {cc : ByteArray} {n : Nat} {r0 : Option FieldType} {d mc ms0 pc : Nat} {lv : List (Nat × Value)} {st : List Value} {Q : Option Value → zh_H → Prop} (h : cP G f nn σ R P ra pa) (hi : iv σ R P N D) {t w r : Int32} (ht : tw R P t w) (hr : vp_in r 10) {rg : Nat → Option Nat} (er : f (zg_B G + 1) = .inl (zg_c G 3, 10, .inr (.inr (.inr (.inr rg))))) (hd : decode cc pc = .ok (.aastore, 1)) (kk : zv G l y cc n r0 d mc ms0 (pc + 1) lv st (va_up f (zg_B G + 1) (.inl (zg_c G 3, 10, .inr (.inr (.inr (.inr (va_up rg r.toNatClampNeg (adr ra pa t w))))))), nn) Q) : zv G l y cc n r0 d mc ms0 pc lv (va_rf (adr ra pa t w) :: .int r :: .ref (zg_B G + 1) :: st) (f, nn) Q := by
  have b1 : zg_B G + 1 < nn := c_b (by decide) h
  rcases ht with rfl | ⟨rfl, p, hp1, hp2, rfl⟩ | ⟨rfl, q, hq, rfl⟩
  · exact zv_aast3N er (by omega) b1 hr hd kk
  · have := hi.2.1.2
    rw [adr_2 ra pa (by omega)] at kk ⊢
    obtain ⟨e, p1, p2, -⟩ := vwP h hp1 hp2
    exact zv_aast3 er (by omega) b1 hr e p1 p2 rfl (Or.inl (by decide +kernel)) hd kk
  · have := hi.1.2
    rw [adr_3 ra pa (by omega)] at kk ⊢
    by_cases hK : σ.2.2.1 9 q < 8
    · obtain ⟨s, num, hs, -, e, e2, ⟨p1, p2, p3, p4⟩, -⟩ := vwN h hi hq hK
      exact zv_aast3 er (by omega) b1 hr e p1 p2 rfl (Or.inl (by decide +kernel)) hd kk
    · obtain ⟨s, num, hs, -, e, e2, ⟨p1, p2, p3, p4⟩, -⟩ := vwT h hi hq hK
      exact zv_aast3 er (by omega) b1 hr e p1 p2 rfl (Or.inl (by decide +kernel)) hd kk
set_option maxRecDepth 20000 in
set_option maxHeartbeats 1000000 in
theorem xX_share {G : zh_G} {l : Launch} {f : Nat → va_E} {nn : Nat} {σ : sg} {R P N D : Nat} {ra pa : Nat → Nat} (h : cP G f nn σ R P ra pa) (hi : iv σ R P N D) {r fr : Int32} : zc G l yX7_share cX7_share 3 (some .int) 1 [.ref (zg_B G), .int r, .int fr] (f, nn) 0 0 (cN G f nn (t_share σ r fr) R P ra pa (some (.int (a_share r fr)))) := by
  refine zc.of (by decide) (Nat.le_of_ble_eq_true rfl) ?_
  obtain ⟨rg, er, er2⟩ := c_r h
  have b0 : zg_B G < nn := c_b (x := 0) (by decide) h
  have b1 : zg_B G + 1 < nn := c_b (by decide) h
  have b2 : zg_B G + 2 < nn := c_b (by decide) h
  have b4 : zg_B G + 4 < nn := c_b (by decide) h
  have b17 : zg_B G + 17 < nn := c_b (by decide) h
  refine zv_iload_n dX7_share_0 rfl ?_
  refine zv_callSq (mc := 0) (ms := 0) zm_X7_36 zkyX7_isRack cX_isRack rfl rfl (Nat.le_of_ble_eq_true rfl) (by decide) dX7_share_1 ?_
  refine zv_if_eq (tgt := 14) dX7_share_4 (by decide) (fun c4 => ?_) (fun c4 => ?_)
  · skip
    have hs : s_no r = true := by simpa using zb_0.mp c4
    refine zv_iconstv (v := (-1)) dX7_share_14 (by decide) ?_
    exact zv_ireturn dX7_share_15 rfl (by first | exact ⟨by simp [a_share, hs], rfl, by simp [t_share, hs]; exact h, fun _ _ _ => rfl⟩ | exact ⟨by simp [a_share, hs, hs2], rfl, by simp [t_share, hs, hs2]; exact h, fun _ _ _ => rfl⟩)
  · skip
    have hs : s_no r = false := by simpa using zb_n.mp c4
    have hr : vp_in r 10 := no_in hs
    refine zv_iload_n dX7_share_7 rfl ?_
    refine zv_callSq (mc := 0) (ms := 0) zm_X7_36 zkyX7_isRack cX_isRack rfl rfl (Nat.le_of_ble_eq_true rfl) (by decide) dX7_share_8 ?_
    refine zv_if_ne (tgt := 16) dX7_share_11 (by decide) (fun c11 => ?_) (fun c11 => ?_)
    · skip
      have hs2 : s_no fr = false := by simpa using zb_n.mp c11
      have hr2 : vp_in fr 10 := no_in hs2
      refine zv_aload_n dX7_share_16 rfl ?_
      refine zv_get (ci := 5) (fs := cob (zg_B G) σ) zf_X7_11_5 (c_o h) (Nat.le_refl _) b0 rfl dX7_share_17 ?_
      refine zv_iload_n dX7_share_20 rfl ?_
      refine zv_aload_n dX7_share_21 rfl ?_
      refine zv_get (ci := 5) (fs := cob (zg_B G) σ) zf_X7_11_5 (c_o h) (Nat.le_refl _) b0 rfl dX7_share_22 ?_
      refine zv_iload_n dX7_share_25 rfl ?_
      refine zv_aald3 er (by omega) b1 hr2 dX7_share_26 ?_
      rw [rk_val h hr2 er2]
      refine zX_ast h hi (iv_tw hi hr2) hr er dX7_share_27 ?_
      refine zv_iconstv (v := 1) dX7_share_28 (by decide) ?_
      exact zv_ireturn dX7_share_29 rfl ⟨by simp [a_share, hs, hs2], rfl, by rw [show t_share σ r fr = sa (sa σ 0 r.toNatClampNeg (xT σ fr)) 1 r.toNatClampNeg (xW σ fr) by simp [t_share, hs, hs2]]; exact cP_rack h er rfl rfl rfl rfl, fun a h1 h2 => vne (by omega)⟩
    · skip
      have hs2 : s_no fr = true := by simpa using zb_0.mp c11
      refine zv_iconstv (v := (-1)) dX7_share_14 (by decide) ?_
      exact zv_ireturn dX7_share_15 rfl (by first | exact ⟨by simp [a_share, hs], rfl, by simp [t_share, hs]; exact h, fun _ _ _ => rfl⟩ | exact ⟨by simp [a_share, hs, hs2], rfl, by simp [t_share, hs, hs2]; exact h, fun _ _ _ => rfl⟩)
set_option maxRecDepth 20000 in
set_option maxHeartbeats 1000000 in
theorem xX_hang {G : zh_G} {l : Launch} {f : Nat → va_E} {nn : Nat} {σ : sg} {R P N D : Nat} {ra pa : Nat → Nat} (h : cP G f nn σ R P ra pa) (hi : iv σ R P N D) {r : Int32} : zc G l yX7_hang cX7_hang 2 (some .int) 1 [.ref (zg_B G), .int r] (f, nn) 0 0 (cN G f nn (t_hang σ r) R P ra pa (some (.int (a_hang σ r)))) := by
  refine zc.of (by decide) (Nat.le_of_ble_eq_true rfl) ?_
  obtain ⟨rg, er, er2⟩ := c_r h
  have b0 : zg_B G < nn := c_b (x := 0) (by decide) h
  have b1 : zg_B G + 1 < nn := c_b (by decide) h
  have b2 : zg_B G + 2 < nn := c_b (by decide) h
  have b4 : zg_B G + 4 < nn := c_b (by decide) h
  have b17 : zg_B G + 17 < nn := c_b (by decide) h
  refine zv_iload_n dX7_hang_0 rfl ?_
  refine zv_callSq (mc := 0) (ms := 0) zm_X7_36 zkyX7_isRack cX_isRack rfl rfl (Nat.le_of_ble_eq_true rfl) (by decide) dX7_hang_1 ?_
  refine zv_if_ne (tgt := 9) dX7_hang_4 (by decide) (fun c4 => ?_) (fun c4 => ?_)
  · skip
    have hs : s_no r = false := by simpa using zb_n.mp c4
    have hr : vp_in r 10 := no_in hs
    refine zv_aload_n dX7_hang_9 rfl ?_
    refine zv_get (ci := 5) (fs := cob (zg_B G) σ) zf_X7_18_5 (c_o h) (Nat.le_refl _) b0 rfl dX7_hang_10 ?_
    refine zv_get (ci := 0) (fs := [.int (s_has σ), .long (s_val σ), va_rf (adr ra pa (σ.1 2) (σ.1 5))]) zf_X7_51_0 (c_g h) (by omega) b2 rfl dX7_hang_13 ?_
    rcases hi.2.2.2.2.2.1 with g | ⟨g, -⟩ | ⟨g, p, hp1, hp2, ep⟩ | ⟨g, q, hq, eq, h4⟩
    · rw [g]
      refine zv_ifnonnullN dX7_hang_16 ?_
      have g2 : σ.1 2 < 2 := by rw [g]; decide
      refine zv_bipushv (v := (-3)) dX7_hang_19 (by decide) ?_
      exact zv_ireturn dX7_hang_21 rfl ⟨by unfold a_hang; rw [if_neg (by rw [hs]; decide), if_pos g2], rfl, by unfold t_hang; rw [if_neg (by rw [hs]; decide), if_pos g2]; exact h, fun _ _ _ => rfl⟩
    · rw [g]
      refine zv_ifnonnullN dX7_hang_16 ?_
      have g2 : σ.1 2 < 2 := by rw [g]; decide
      refine zv_bipushv (v := (-3)) dX7_hang_19 (by decide) ?_
      exact zv_ireturn dX7_hang_21 rfl ⟨by unfold a_hang; rw [if_neg (by rw [hs]; decide), if_pos g2], rfl, by unfold t_hang; rw [if_neg (by rw [hs]; decide), if_pos g2]; exact h, fun _ _ _ => rfl⟩
    · rw [g, ep, adr_2 ra pa (by have := hi.2.1.2; omega)]
      refine zv_ifnonnull (tgt := 22) dX7_hang_16 (by decide) ?_
      have g2 : ¬ σ.1 2 < 2 := by rw [g]; decide
      have htw : tw R P (σ.1 2) (σ.1 5) := Or.inr (Or.inl ⟨g, p, hp1, hp2, ep⟩)
      refine zv_aload_n dX7_hang_22 rfl ?_
      refine zv_get (ci := 5) (fs := cob (zg_B G) σ) zf_X7_11_5 (c_o h) (Nat.le_refl _) b0 rfl dX7_hang_23 ?_
      refine zv_iload_n dX7_hang_26 rfl ?_
      refine zv_aload_n dX7_hang_27 rfl ?_
      refine zv_get (ci := 5) (fs := cob (zg_B G) σ) zf_X7_18_5 (c_o h) (Nat.le_refl _) b0 rfl dX7_hang_28 ?_
      refine zv_get (ci := 0) (fs := [.int (s_has σ), .long (s_val σ), va_rf (adr ra pa (σ.1 2) (σ.1 5))]) zf_X7_51_0 (c_g h) (by omega) b2 rfl dX7_hang_31 ?_
      refine zX_ast h hi htw hr er dX7_hang_34 ?_
      refine zv_iconstv (v := 1) dX7_hang_35 (by decide) ?_
      exact zv_ireturn dX7_hang_36 rfl ⟨by unfold a_hang; rw [if_neg (by rw [hs]; decide), if_neg g2], rfl, by unfold t_hang; rw [if_neg (by rw [hs]; decide), if_neg g2]; exact cP_rack h er rfl rfl rfl rfl, fun a h1 h2 => vne (by omega)⟩
    · rw [g, eq, adr_3 ra pa (by have := hi.1.2; omega)]
      refine zv_ifnonnull (tgt := 22) dX7_hang_16 (by decide) ?_
      have g2 : ¬ σ.1 2 < 2 := by rw [g]; decide
      have htw : tw R P (σ.1 2) (σ.1 5) := Or.inr (Or.inr ⟨g, q, hq, eq⟩)
      refine zv_aload_n dX7_hang_22 rfl ?_
      refine zv_get (ci := 5) (fs := cob (zg_B G) σ) zf_X7_11_5 (c_o h) (Nat.le_refl _) b0 rfl dX7_hang_23 ?_
      refine zv_iload_n dX7_hang_26 rfl ?_
      refine zv_aload_n dX7_hang_27 rfl ?_
      refine zv_get (ci := 5) (fs := cob (zg_B G) σ) zf_X7_18_5 (c_o h) (Nat.le_refl _) b0 rfl dX7_hang_28 ?_
      refine zv_get (ci := 0) (fs := [.int (s_has σ), .long (s_val σ), va_rf (adr ra pa (σ.1 2) (σ.1 5))]) zf_X7_51_0 (c_g h) (by omega) b2 rfl dX7_hang_31 ?_
      refine zX_ast h hi htw hr er dX7_hang_34 ?_
      refine zv_iconstv (v := 1) dX7_hang_35 (by decide) ?_
      exact zv_ireturn dX7_hang_36 rfl ⟨by unfold a_hang; rw [if_neg (by rw [hs]; decide), if_neg g2], rfl, by unfold t_hang; rw [if_neg (by rw [hs]; decide), if_neg g2]; exact cP_rack h er rfl rfl rfl rfl, fun a h1 h2 => vne (by omega)⟩
  · skip
    have hs : s_no r = true := by simpa using zb_0.mp c4
    refine zv_iconstv (v := (-1)) dX7_hang_7 (by decide) ?_
    exact zv_ireturn dX7_hang_8 rfl ⟨by simp [a_hang, t_hang, hs], rfl, by simp [a_hang, t_hang, hs]; exact h, fun _ _ _ => rfl⟩
set_option maxRecDepth 20000 in
set_option maxHeartbeats 1000000 in
theorem xX_gauge {G : zh_G} {l : Launch} {f : Nat → va_E} {nn : Nat} {σ : sg} {R P N D : Nat} {ra pa : Nat → Nat} (h : cP G f nn σ R P ra pa) (hi : iv σ R P N D) {k : Int32} {v : Int64} : zc G l yX7_gauge cX7_gauge 4 (some .int) 2 [.ref (zg_B G), .int k, .long v] (f, nn) 0 0 (cN G f nn (t_gauge σ k v) R P ra pa (some (.int (a_gauge k)))) := by
  refine zc.of (by decide) (Nat.le_of_ble_eq_true rfl) ?_
  obtain ⟨rg, er, er2⟩ := c_r h
  have b0 : zg_B G < nn := c_b (x := 0) (by decide) h
  have b1 : zg_B G + 1 < nn := c_b (by decide) h
  have b2 : zg_B G + 2 < nn := c_b (by decide) h
  have b4 : zg_B G + 4 < nn := c_b (by decide) h
  have b17 : zg_B G + 17 < nn := c_b (by decide) h
  refine zv_iload_n dX7_gauge_0 rfl ?_
  refine zv_callSq (mc := 0) (ms := 0) zm_X7_40 zkyX7_isNumberKind cX_isNK rfl rfl (Nat.le_of_ble_eq_true rfl) (by decide) dX7_gauge_1 ?_
  refine zv_if_ne (tgt := 10) dX7_gauge_4 (by decide) (fun c4 => ?_) (fun c4 => ?_)
  · skip
    have hs : s_rng k 0 7 = false := by simpa using zb_n.mp c4
    obtain ⟨b, hb, rfl⟩ := rng7 hs
    refine zv_aload_n dX7_gauge_10 rfl ?_
    refine zv_get (ci := 5) (fs := cob (zg_B G) σ) zf_X7_18_5 (c_o h) (Nat.le_refl _) b0 rfl dX7_gauge_11 ?_
    refine zv_iload_n dX7_gauge_14 rfl ?_
    refine zv_lload_n dX7_gauge_15 rfl ?_
    refine zv_callVq (ci := 0) (fs := [.int (s_has σ), .long (s_val σ), va_rf (adr ra pa (σ.1 2) (σ.1 5))]) (mc := 0) (ms := 0) zm_X7_55 zkyX0_holdNumber (c_g h) (by omega) b2 rfl rfl (cX_holdN (c_g h) (by omega) b2) rfl rfl (Nat.le_of_ble_eq_true rfl) (by decide) dX7_gauge_16 ?_
    refine zv_iconstv (v := 1) dX7_gauge_19 (by decide) ?_
    exact zv_ireturn dX7_gauge_20 rfl ⟨by simp [a_gauge, hs], rfl, by rw [show t_gauge σ (nI b) v = s_hold σ (nI b) (s_as (nI b) v) by simp [t_gauge, hs]]; have z := cP_gauge h (σ2 := s_hold σ (nI b) (s_as (nI b) v)) rfl rfl rfl rfl rfl; rw [hold_hc] at z; exact z, fun a h1 h2 => vne (by omega)⟩
  · skip
    have hs : s_rng k 0 7 = true := by simpa using zb_0.mp c4
    refine zv_bipushv (v := (-2)) dX7_gauge_7 (by decide) ?_
    exact zv_ireturn dX7_gauge_9 rfl ⟨by simp [a_gauge, t_gauge, hs], rfl, by simp [a_gauge, t_gauge, hs]; exact h, fun _ _ _ => rfl⟩
set_option maxRecDepth 20000 in
set_option maxHeartbeats 1000000 in
theorem xX_none {G : zh_G} {l : Launch} {f : Nat → va_E} {nn : Nat} {σ : sg} {R P N D : Nat} {ra pa : Nat → Nat} (h : cP G f nn σ R P ra pa) (hi : iv σ R P N D)  : zc G l yX7_none cX7_none 1 (some .int) 1 [.ref (zg_B G)] (f, nn) 0 0 (cN G f nn (t_none σ) R P ra pa (some (.int 1))) := by
  refine zc.of (by decide) (Nat.le_of_ble_eq_true rfl) ?_
  obtain ⟨rg, er, er2⟩ := c_r h
  have b0 : zg_B G < nn := c_b (x := 0) (by decide) h
  have b1 : zg_B G + 1 < nn := c_b (by decide) h
  have b2 : zg_B G + 2 < nn := c_b (by decide) h
  have b4 : zg_B G + 4 < nn := c_b (by decide) h
  have b17 : zg_B G + 17 < nn := c_b (by decide) h
  refine zv_aload_n dX7_none_0 rfl ?_
  refine zv_get (ci := 5) (fs := cob (zg_B G) σ) zf_X7_18_5 (c_o h) (Nat.le_refl _) b0 rfl dX7_none_1 ?_
  refine zv_null dX7_none_4 ?_
  refine zv_callVq (ci := 0) (fs := [.int (s_has σ), .long (s_val σ), va_rf (adr ra pa (σ.1 2) (σ.1 5))]) (mc := 0) (ms := 0) zm_X7_68 zkyX0_holdThing (c_g h) (by omega) b2 rfl rfl (cX_holdT0 (c_g h) (by omega) b2) rfl rfl (Nat.le_of_ble_eq_true rfl) (by decide) dX7_none_5 ?_
  refine zv_iconstv (v := 1) dX7_none_8 (by decide) ?_
  exact zv_ireturn dX7_none_9 rfl ⟨rfl, rfl, by have z := cP_gauge h (σ2 := t_none σ) rfl rfl rfl rfl rfl; exact z, fun a h1 h2 => vne (by omega)⟩
set_option maxRecDepth 20000 in
set_option maxHeartbeats 1000000 in
theorem xX_fault {G : zh_G} {l : Launch} {f : Nat → va_E} {nn : Nat} {σ : sg} {R P N D : Nat} {ra pa : Nat → Nat} (h : cP G f nn σ R P ra pa) (hi : iv σ R P N D)  : zc G l yX7_fault cX7_fault 1 (some .int) 0 [.ref (zg_B G)] (f, nn) 0 0 (cN G f nn σ R P ra pa (some (.int (σ.1 16)))) := by
  refine zc.of (by decide) (Nat.le_of_ble_eq_true rfl) ?_
  obtain ⟨rg, er, er2⟩ := c_r h
  have b0 : zg_B G < nn := c_b (x := 0) (by decide) h
  have b1 : zg_B G + 1 < nn := c_b (by decide) h
  have b2 : zg_B G + 2 < nn := c_b (by decide) h
  have b4 : zg_B G + 4 < nn := c_b (by decide) h
  have b17 : zg_B G + 17 < nn := c_b (by decide) h
  refine zv_aload_n dX7_fault_0 rfl ?_
  refine zv_get (ci := 5) (fs := cob (zg_B G) σ) zf_X7_148_5 (c_o h) (Nat.le_refl _) b0 rfl dX7_fault_1 ?_
  exact zv_ireturn dX7_fault_4 rfl ⟨rfl, rfl, h, fun _ _ _ => rfl⟩
set_option maxRecDepth 20000 in
set_option maxHeartbeats 1000000 in
theorem xX_has {G : zh_G} {l : Launch} {f : Nat → va_E} {nn : Nat} {σ : sg} {R P N D : Nat} {ra pa : Nat → Nat} (h : cP G f nn σ R P ra pa) (hi : iv σ R P N D)  : zc G l yX7_has cX7_has 1 (some .int) 0 [.ref (zg_B G)] (f, nn) 0 0 (cN G f nn σ R P ra pa (some (.int (s_has σ)))) := by
  refine zc.of (by decide) (Nat.le_of_ble_eq_true rfl) ?_
  obtain ⟨rg, er, er2⟩ := c_r h
  have b0 : zg_B G < nn := c_b (x := 0) (by decide) h
  have b1 : zg_B G + 1 < nn := c_b (by decide) h
  have b2 : zg_B G + 2 < nn := c_b (by decide) h
  have b4 : zg_B G + 4 < nn := c_b (by decide) h
  have b17 : zg_B G + 17 < nn := c_b (by decide) h
  refine zv_aload_n dX7_has_0 rfl ?_
  refine zv_get (ci := 5) (fs := cob (zg_B G) σ) zf_X7_18_5 (c_o h) (Nat.le_refl _) b0 rfl dX7_has_1 ?_
  refine zv_get (ci := 0) (fs := [.int (s_has σ), .long (s_val σ), va_rf (adr ra pa (σ.1 2) (σ.1 5))]) zf_X7_76_0 (c_g h) (by omega) b2 rfl dX7_has_4 ?_
  exact zv_ireturn dX7_has_7 rfl ⟨rfl, rfl, h, fun _ _ _ => rfl⟩
set_option maxRecDepth 20000 in
set_option maxHeartbeats 1000000 in
theorem xX_value {G : zh_G} {l : Launch} {f : Nat → va_E} {nn : Nat} {σ : sg} {R P N D : Nat} {ra pa : Nat → Nat} (h : cP G f nn σ R P ra pa) (hi : iv σ R P N D)  : zc G l yX7_value cX7_value 1 (some .long) 0 [.ref (zg_B G)] (f, nn) 0 0 (cN G f nn σ R P ra pa (some (.long (s_val σ)))) := by
  refine zc.of (by decide) (Nat.le_of_ble_eq_true rfl) ?_
  obtain ⟨rg, er, er2⟩ := c_r h
  have b0 : zg_B G < nn := c_b (x := 0) (by decide) h
  have b1 : zg_B G + 1 < nn := c_b (by decide) h
  have b2 : zg_B G + 2 < nn := c_b (by decide) h
  have b4 : zg_B G + 4 < nn := c_b (by decide) h
  have b17 : zg_B G + 17 < nn := c_b (by decide) h
  refine zv_aload_n dX7_value_0 rfl ?_
  refine zv_get (ci := 5) (fs := cob (zg_B G) σ) zf_X7_18_5 (c_o h) (Nat.le_refl _) b0 rfl dX7_value_1 ?_
  refine zv_get (ci := 0) (fs := [.int (s_has σ), .long (s_val σ), va_rf (adr ra pa (σ.1 2) (σ.1 5))]) zf_X7_90_0 (c_g h) (by omega) b2 rfl dX7_value_4 ?_
  exact zv_lreturn dX7_value_7 rfl ⟨rfl, rfl, h, fun _ _ _ => rfl⟩
set_option maxRecDepth 20000 in
set_option maxHeartbeats 1000000 in
theorem xX_faults {G : zh_G} {l : Launch} {f : Nat → va_E} {nn : Nat} {σ : sg} {R P N D : Nat} {ra pa : Nat → Nat} (h : cP G f nn σ R P ra pa) (hi : iv σ R P N D) {k : Int32} : zc G l yX7_faults cX7_faults 2 (some .int) 0 [.ref (zg_B G), .int k] (f, nn) 0 0 (cN G f nn σ R P ra pa (some (.int (a_faults σ k)))) := by
  refine zc.of (by decide) (Nat.le_of_ble_eq_true rfl) ?_
  obtain ⟨rg, er, er2⟩ := c_r h
  have b0 : zg_B G < nn := c_b (x := 0) (by decide) h
  have b1 : zg_B G + 1 < nn := c_b (by decide) h
  have b2 : zg_B G + 2 < nn := c_b (by decide) h
  have b4 : zg_B G + 4 < nn := c_b (by decide) h
  have b17 : zg_B G + 17 < nn := c_b (by decide) h
  refine zv_iload_n dX7_faults_0 rfl ?_
  refine zv_if_lt (tgt := 9) dX7_faults_1 (by decide) (fun c1 => ?_) (fun c1 => ?_)
  · skip
    refine zv_bipushv (v := (-9)) dX7_faults_9 (by decide) ?_
    refine zv_goto (tgt := 20) dX7_faults_11 (by decide) ?_
    exact zv_ireturn dX7_faults_20 rfl ⟨by simp_all [-Int32.not_lt, -Int32.not_le, ← Int32.not_lt, a_faults, s_rng], rfl, h, fun _ _ _ => rfl⟩
  · skip
    refine zv_iload_n dX7_faults_4 rfl ?_
    refine zv_iconstv (v := 3) dX7_faults_5 (by decide) ?_
    refine zv_icmp_le (tgt := 14) dX7_faults_6 (by decide) (fun c6 => ?_) (fun c6 => ?_)
    · skip
      refine zv_aload_n dX7_faults_14 rfl ?_
      refine zv_get (ci := 5) (fs := cob (zg_B G) σ) zf_X7_32_5 (c_o h) (Nat.le_refl _) b0 rfl dX7_faults_15 ?_
      refine zv_iload_n dX7_faults_18 rfl ?_
      refine zv_iald (c_f h) (by omega) b17 (rng3_in (by simp_all [-Int32.not_lt, -Int32.not_le, ← Int32.not_lt, s_rng])) dX7_faults_19 ?_
      exact zv_ireturn dX7_faults_20 rfl ⟨by simp_all [-Int32.not_lt, -Int32.not_le, ← Int32.not_lt, a_faults, s_rng], rfl, h, fun _ _ _ => rfl⟩
    · skip
      refine zv_bipushv (v := (-9)) dX7_faults_9 (by decide) ?_
      refine zv_goto (tgt := 20) dX7_faults_11 (by decide) ?_
      exact zv_ireturn dX7_faults_20 rfl ⟨by simp_all [-Int32.not_lt, -Int32.not_le, ← Int32.not_lt, a_faults, s_rng], rfl, h, fun _ _ _ => rfl⟩
set_option maxRecDepth 20000 in
set_option maxHeartbeats 1000000 in
theorem xX_get {G : zh_G} {l : Launch} {f : Nat → va_E} {nn : Nat} {σ : sg} {R P N D : Nat} {ra pa : Nat → Nat} (h : cP G f nn σ R P ra pa) (hi : iv σ R P N D) {r i : Int32} : zc G l yX7_get cX7_get 4 (some .int) 3 [.ref (zg_B G), .int r, .int i] (f, nn) 0 0 (cN G f nn (t_get σ r i) R P ra pa (some (.int (a_get σ r i)))) := by
  refine zc.of (by decide) (Nat.le_of_ble_eq_true rfl) ?_
  obtain ⟨rg, er, er2⟩ := c_r h
  have b0 : zg_B G < nn := c_b (x := 0) (by decide) h
  have b1 : zg_B G + 1 < nn := c_b (by decide) h
  have b2 : zg_B G + 2 < nn := c_b (by decide) h
  have b4 : zg_B G + 4 < nn := c_b (by decide) h
  have b17 : zg_B G + 17 < nn := c_b (by decide) h
  refine zv_iload_n dX7_get_0 rfl ?_
  refine zv_callSq (mc := 0) (ms := 0) zm_X7_36 zkyX7_isRack cX_isRack rfl rfl (Nat.le_of_ble_eq_true rfl) (by decide) dX7_get_1 ?_
  refine zv_if_ne (tgt := 9) dX7_get_4 (by decide) (fun c4 => ?_) (fun c4 => ?_)
  · skip
    have hs : s_no r = false := by simpa using zb_n.mp c4
    have hr : vp_in r 10 := no_in hs
    refine zv_aload_n dX7_get_9 rfl ?_
    refine zv_get (ci := 5) (fs := cob (zg_B G) σ) zf_X7_11_5 (c_o h) (Nat.le_refl _) b0 rfl dX7_get_10 ?_
    refine zv_iload_n dX7_get_13 rfl ?_
    refine zv_aald3 er (by omega) b1 hr dX7_get_14 ?_
    rw [rk_val h hr er2]
    refine zv_iload_n dX7_get_15 rfl ?_
    refine zv_aload_n dX7_get_16 rfl ?_
    refine zv_get (ci := 5) (fs := cob (zg_B G) σ) zf_X7_18_5 (c_o h) (Nat.le_refl _) b0 rfl dX7_get_17 ?_
    refine zv_callSq (mc := 0) (ms := 0) zm_X7_72 zkyX7_getPlace (u_get h hi (iv_tw hi hr) (c_g h) (by omega) (by omega)) rfl rfl (Nat.le_of_ble_eq_true rfl) (by decide) dX7_get_20 ?_
    have hP1 := cP_getS h r i
    have hK1 := kp_if (G := G) (f := f) (c := s_gF σ (xT σ r) (xW σ r) i = 0) (x := zg_B G + 2) (e := hcell ra pa (s_gets σ (xW σ r) i)) (by omega)
    generalize (if s_gF σ (xT σ r) (xW σ r) i = 0 then va_up f (zg_B G + 2) (hcell ra pa (s_gets σ (xW σ r) i)) else f) = f1 at hP1 hK1 ⊢
    refine zv_istore_n dX7_get_23 (by decide) ?_
    refine zv_aload_n dX7_get_24 rfl ?_
    refine zv_iload_n dX7_get_25 rfl ?_
    refine zv_aload_n dX7_get_26 rfl ?_
    refine zv_get (ci := 5) (fs := cob (zg_B G) (s_getS σ r i)) zf_X7_18_5 (c_o hP1) (Nat.le_refl _) b0 rfl dX7_get_27 ?_
    refine zv_get (ci := 0) (fs := [.int (s_has (s_getS σ r i)), .long (s_val (s_getS σ r i)), va_rf (adr ra pa ((s_getS σ r i).1 2) ((s_getS σ r i).1 5))]) zf_X7_76_0 (c_g hP1) (by omega) b2 rfl dX7_get_30 ?_
    refine zX_callV hP1 zm_X7_79 zkyX7_answer rfl (x_ans hP1 (gF_in _ _ _ _)) rfl rfl (Nat.le_of_ble_eq_true rfl) (by decide) dX7_get_33 (fun f33 h3 k3 => ?_)
    exact zv_ireturn dX7_get_36 rfl ⟨by simp [a_get, hs], rfl, by rw [show t_get σ r i = s_ansS (s_getS σ r i) (s_gF σ (xT σ r) (xW σ r) i) by simp [t_get, hs]]; exact h3, fun a h1 h2 => (k3 a h1 h2).trans (hK1 a h1 h2)⟩
  · skip
    have hs : s_no r = true := by simpa using zb_0.mp c4
    refine zv_iconstv (v := (-1)) dX7_get_7 (by decide) ?_
    exact zv_ireturn dX7_get_8 rfl ⟨by simp [a_get, t_get, hs], rfl, by simp [a_get, t_get, hs]; exact h, fun _ _ _ => rfl⟩
set_option maxRecDepth 20000 in
set_option maxHeartbeats 1000000 in
theorem xX_set {G : zh_G} {l : Launch} {f : Nat → va_E} {nn : Nat} {σ : sg} {R P N D : Nat} {ra pa : Nat → Nat} (h : cP G f nn σ R P ra pa) (hi : iv σ R P N D) {r i : Int32} : zc G l yX7_set cX7_set 3 (some .int) 4 [.ref (zg_B G), .int r, .int i] (f, nn) 0 0 (cN G f nn (t_sett σ r i) R P ra pa (some (.int (a_set σ r i)))) := by
  refine zc.of (by decide) (Nat.le_of_ble_eq_true rfl) ?_
  obtain ⟨rg, er, er2⟩ := c_r h
  have b0 : zg_B G < nn := c_b (x := 0) (by decide) h
  have b1 : zg_B G + 1 < nn := c_b (by decide) h
  have b2 : zg_B G + 2 < nn := c_b (by decide) h
  have b4 : zg_B G + 4 < nn := c_b (by decide) h
  have b17 : zg_B G + 17 < nn := c_b (by decide) h
  refine zv_iload_n dX7_set_0 rfl ?_
  refine zv_callSq (mc := 0) (ms := 0) zm_X7_36 zkyX7_isRack cX_isRack rfl rfl (Nat.le_of_ble_eq_true rfl) (by decide) dX7_set_1 ?_
  refine zv_if_ne (tgt := 9) dX7_set_4 (by decide) (fun c4 => ?_) (fun c4 => ?_)
  · skip
    have hs : s_no r = false := by simpa using zb_n.mp c4
    have hr : vp_in r 10 := no_in hs
    refine zv_aload_n dX7_set_9 rfl ?_
    refine zv_aload_n dX7_set_10 rfl ?_
    refine zv_get (ci := 5) (fs := cob (zg_B G) σ) zf_X7_11_5 (c_o h) (Nat.le_refl _) b0 rfl dX7_set_11 ?_
    refine zv_iload_n dX7_set_14 rfl ?_
    refine zv_aald3 er (by omega) b1 hr dX7_set_15 ?_
    rw [rk_val h hr er2]
    refine zv_iload_n dX7_set_16 rfl ?_
    refine zv_aload_n dX7_set_17 rfl ?_
    refine zv_get (ci := 5) (fs := cob (zg_B G) σ) zf_X7_18_5 (c_o h) (Nat.le_refl _) b0 rfl dX7_set_18 ?_
    refine zX_callS zm_X7_83 zkyX7_setPlace (u_set h hi (iv_tw hi hr) rfl hi.2.2.2.2.2.1 h.2.2.2.1 (by omega) (by omega)) rfl rfl (Nat.le_of_ble_eq_true rfl) (by decide) dX7_set_21 (fun f21 h1 k1 => ?_)
    rw [← sFt_eq σ r i] at h1 ⊢
    refine zv_iconstv (v := 1) dX7_set_24 (by decide) ?_
    refine zX_callV h1 zm_X7_79 zkyX7_answer rfl (x_ans h1 (sF_in _ _ _)) rfl rfl (Nat.le_of_ble_eq_true rfl) (by decide) dX7_set_25 (fun f25 h3 k3 => ?_)
    exact zv_ireturn dX7_set_28 rfl ⟨by simp [a_set, hs], rfl, by rw [show t_sett σ r i = s_ansS (s_setS σ r i) (s_sF σ r i) by simp [t_sett, hs]]; exact h3, fun a h1 h2 => (k3 a h1 h2).trans (k1 a h1 h2)⟩
  · skip
    have hs : s_no r = true := by simpa using zb_0.mp c4
    refine zv_iconstv (v := (-1)) dX7_set_7 (by decide) ?_
    exact zv_ireturn dX7_set_8 rfl ⟨by simp [a_set, t_sett, hs], rfl, by simp [a_set, t_sett, hs]; exact h, fun _ _ _ => rfl⟩
set_option maxRecDepth 20000 in
set_option maxHeartbeats 1000000 in
theorem xX_read {G : zh_G} {l : Launch} {f : Nat → va_E} {nn : Nat} {σ : sg} {R P N D : Nat} {ra pa : Nat → Nat} (h : cP G f nn σ R P ra pa) (hi : iv σ R P N D) {r i to : Int32} : zc G l yX7_read cX7_read 4 (some .int) 3 [.ref (zg_B G), .int r, .int i, .int to] (f, nn) 0 0 (cN G f nn (t_read σ r i to) R P ra pa (some (.int (a_read σ r i to)))) := by
  refine zc.of (by decide) (Nat.le_of_ble_eq_true rfl) ?_
  obtain ⟨rg, er, er2⟩ := c_r h
  have b0 : zg_B G < nn := c_b (x := 0) (by decide) h
  have b1 : zg_B G + 1 < nn := c_b (by decide) h
  have b2 : zg_B G + 2 < nn := c_b (by decide) h
  have b4 : zg_B G + 4 < nn := c_b (by decide) h
  have b17 : zg_B G + 17 < nn := c_b (by decide) h
  refine zv_iload_n dX7_read_0 rfl ?_
  refine zv_callSq (mc := 0) (ms := 0) zm_X7_36 zkyX7_isRack cX_isRack rfl rfl (Nat.le_of_ble_eq_true rfl) (by decide) dX7_read_1 ?_
  refine zv_if_ne (tgt := 9) dX7_read_4 (by decide) (fun c4 => ?_) (fun c4 => ?_)
  · skip
    have hs : s_no r = false := by simpa using zb_n.mp c4
    have hr : vp_in r 10 := no_in hs
    refine zv_iload_n dX7_read_9 rfl ?_
    refine zv_callSq (mc := 0) (ms := 0) zm_X7_40 zkyX7_isNumberKind cX_isNK rfl rfl (Nat.le_of_ble_eq_true rfl) (by decide) dX7_read_10 ?_
    refine zv_if_ne (tgt := 19) dX7_read_13 (by decide) (fun c13 => ?_) (fun c13 => ?_)
    · skip
      have hs2 : s_rng to 0 7 = false := by simpa using zb_n.mp c13
      obtain ⟨b, hb, rfl⟩ := rng7 hs2
      refine zv_aload_n dX7_read_19 rfl ?_
      refine zv_aload_n dX7_read_20 rfl ?_
      refine zv_get (ci := 5) (fs := cob (zg_B G) σ) zf_X7_11_5 (c_o h) (Nat.le_refl _) b0 rfl dX7_read_21 ?_
      refine zv_iload_n dX7_read_24 rfl ?_
      refine zv_aald3 er (by omega) b1 hr dX7_read_25 ?_
      rw [rk_val h hr er2]
      refine zv_iload_n dX7_read_26 rfl ?_
      refine zv_iload_n dX7_read_27 rfl ?_
      refine zv_aload_n dX7_read_28 rfl ?_
      refine zv_get (ci := 5) (fs := cob (zg_B G) σ) zf_X7_18_5 (c_o h) (Nat.le_refl _) b0 rfl dX7_read_29 ?_
      refine zv_callSq (mc := 0) (ms := 0) zm_X7_86 zkyX7_readPlace (u_read h hi (iv_tw hi hr) hb (c_g h) (by omega) (by omega)) rfl rfl (Nat.le_of_ble_eq_true rfl) (by decide) dX7_read_32 ?_
      have hP1 : cP G (if s_rF σ (xT σ r) (xW σ r) i (nI b) = 0 then va_up f (zg_B G + 2) (.inr (0, [.int (nI b), .long (s_as (nI b) (xP σ (xW σ r) i)), .null])) else f) nn (s_readS σ (xT σ r) (xW σ r) i (nI b)) R P ra pa := by
        unfold s_readS
        by_cases hz : s_rF σ (xT σ r) (xW σ r) i (nI b) = 0
        · rw [if_pos hz, if_pos hz, ← hold_hc ra pa σ]; exact cP_gauge h rfl rfl rfl rfl rfl
        · rw [if_neg hz, if_neg hz]; exact h
      have hK1 := kp_if (G := G) (f := f) (c := s_rF σ (xT σ r) (xW σ r) i (nI b) = 0) (x := zg_B G + 2) (e := .inr (0, [.int (nI b), .long (s_as (nI b) (xP σ (xW σ r) i)), .null])) (by omega)
      generalize (if s_rF σ (xT σ r) (xW σ r) i (nI b) = 0 then va_up f (zg_B G + 2) (.inr (0, [.int (nI b), .long (s_as (nI b) (xP σ (xW σ r) i)), .null])) else f) = f1 at hP1 hK1 ⊢
      refine zv_iconstv (v := 1) dX7_read_35 (by decide) ?_
      refine zX_callV hP1 zm_X7_79 zkyX7_answer rfl (x_ans hP1 (rF_in _ _ _ _ _)) rfl rfl (Nat.le_of_ble_eq_true rfl) (by decide) dX7_read_36 (fun f36 h3 k3 => ?_)
      exact zv_ireturn dX7_read_39 rfl ⟨by simp [a_read, hs, hs2], rfl, by rw [show t_read σ r i (nI b) = s_ansS (s_readS σ (xT σ r) (xW σ r) i (nI b)) (s_rF σ (xT σ r) (xW σ r) i (nI b)) by simp [t_read, hs, hs2]]; exact h3, fun a h1 h2 => (k3 a h1 h2).trans (hK1 a h1 h2)⟩
    · skip
      have hs2 : s_rng to 0 7 = true := by simpa using zb_0.mp c13
      refine zv_bipushv (v := (-2)) dX7_read_16 (by decide) ?_
      exact zv_ireturn dX7_read_18 rfl ⟨by simp [a_read, t_read, hs, hs2], rfl, by simp [a_read, t_read, hs, hs2]; exact h, fun _ _ _ => rfl⟩
  · skip
    have hs : s_no r = true := by simpa using zb_0.mp c4
    refine zv_iconstv (v := (-1)) dX7_read_7 (by decide) ?_
    exact zv_ireturn dX7_read_8 rfl ⟨by simp [a_read, t_read, hs], rfl, by simp [a_read, t_read, hs]; exact h, fun _ _ _ => rfl⟩
set_option maxRecDepth 20000 in
set_option maxHeartbeats 1000000 in
theorem xX_write {G : zh_G} {l : Launch} {f : Nat → va_E} {nn : Nat} {σ : sg} {R P N D : Nat} {ra pa : Nat → Nat} (h : cP G f nn σ R P ra pa) (hi : iv σ R P N D) {r i of : Int32} : zc G l yX7_write cX7_write 4 (some .int) 2 [.ref (zg_B G), .int r, .int i, .int of] (f, nn) 0 0 (cN G f nn (t_write σ r i of) R P ra pa (some (.int (a_write σ r i of)))) := by
  refine zc.of (by decide) (Nat.le_of_ble_eq_true rfl) ?_
  obtain ⟨rg, er, er2⟩ := c_r h
  have b0 : zg_B G < nn := c_b (x := 0) (by decide) h
  have b1 : zg_B G + 1 < nn := c_b (by decide) h
  have b2 : zg_B G + 2 < nn := c_b (by decide) h
  have b4 : zg_B G + 4 < nn := c_b (by decide) h
  have b17 : zg_B G + 17 < nn := c_b (by decide) h
  refine zv_iload_n dX7_write_0 rfl ?_
  refine zv_callSq (mc := 0) (ms := 0) zm_X7_36 zkyX7_isRack cX_isRack rfl rfl (Nat.le_of_ble_eq_true rfl) (by decide) dX7_write_1 ?_
  refine zv_if_ne (tgt := 9) dX7_write_4 (by decide) (fun c4 => ?_) (fun c4 => ?_)
  · skip
    have hs : s_no r = false := by simpa using zb_n.mp c4
    have hr : vp_in r 10 := no_in hs
    refine zv_iload_n dX7_write_9 rfl ?_
    refine zv_callSq (mc := 0) (ms := 0) zm_X7_40 zkyX7_isNumberKind cX_isNK rfl rfl (Nat.le_of_ble_eq_true rfl) (by decide) dX7_write_10 ?_
    refine zv_if_ne (tgt := 19) dX7_write_13 (by decide) (fun c13 => ?_) (fun c13 => ?_)
    · skip
      have hs2 : s_rng of 0 7 = false := by simpa using zb_n.mp c13
      obtain ⟨b, hb, rfl⟩ := rng7 hs2
      refine zv_aload_n dX7_write_19 rfl ?_
      refine zv_get (ci := 5) (fs := cob (zg_B G) σ) zf_X7_18_5 (c_o h) (Nat.le_refl _) b0 rfl dX7_write_20 ?_
      refine zv_get (ci := 0) (fs := [.int (s_has σ), .long (s_val σ), va_rf (adr ra pa (σ.1 2) (σ.1 5))]) zf_X7_76_0 (c_g h) (by omega) b2 rfl dX7_write_23 ?_
      refine zv_callSq (mc := 0) (ms := 0) zm_X7_40 zkyX7_isNumberKind cX_isNK rfl rfl (Nat.le_of_ble_eq_true rfl) (by decide) dX7_write_26 ?_
      rw [nk_g hi]
      refine zv_if_ne (tgt := 35) dX7_write_29 (by decide) (fun c29 => ?_) (fun c29 => ?_)
      · skip
        have g1 : σ.1 2 = 1 := by simpa using zb_n.mp c29
        refine zv_aload_n dX7_write_35 rfl ?_
        refine zv_aload_n dX7_write_36 rfl ?_
        refine zv_get (ci := 5) (fs := cob (zg_B G) σ) zf_X7_11_5 (c_o h) (Nat.le_refl _) b0 rfl dX7_write_37 ?_
        refine zv_iload_n dX7_write_40 rfl ?_
        refine zv_aald3 er (by omega) b1 hr dX7_write_41 ?_
        rw [rk_val h hr er2]
        refine zv_iload_n dX7_write_42 rfl ?_
        refine zv_iload_n dX7_write_43 rfl ?_
        refine zv_aload_n dX7_write_44 rfl ?_
        refine zv_get (ci := 5) (fs := cob (zg_B G) σ) zf_X7_18_5 (c_o h) (Nat.le_refl _) b0 rfl dX7_write_45 ?_
        refine zv_get (ci := 0) (fs := [.int (s_has σ), .long (s_val σ), va_rf (adr ra pa (σ.1 2) (σ.1 5))]) zf_X7_90_0 (c_g h) (by omega) b2 rfl dX7_write_48 ?_
        refine zX_callS zm_X7_94 zkyX7_writePlace (u_write h hi (iv_tw hi hr) hb) rfl rfl (Nat.le_of_ble_eq_true rfl) (by decide) dX7_write_51 (fun f51 h1 k1 => ?_)
        rw [val_1 g1] at h1
        refine zv_iconstv (v := 1) dX7_write_54 (by decide) ?_
        refine zX_callV h1 zm_X7_79 zkyX7_answer rfl (x_ans h1 (wF_in _ _ _ _ _)) rfl rfl (Nat.le_of_ble_eq_true rfl) (by decide) dX7_write_55 (fun f55 h3 k3 => ?_)
        exact zv_ireturn dX7_write_58 rfl ⟨by simp [a_write, hs, hs2, g1], rfl, by rw [show t_write σ r i (nI b) = s_ansS (s_writeS σ (xT σ r) (xW σ r) i (nI b) σ.2.1) (s_wF σ (xT σ r) (xW σ r) i (nI b)) by simp [t_write, hs, hs2, g1]]; exact h3, fun a h1 h2 => (k3 a h1 h2).trans (k1 a h1 h2)⟩
      · skip
        have g1 : ¬ σ.1 2 = 1 := by simpa using zb_0.mp c29
        refine zv_bipushv (v := (-3)) dX7_write_32 (by decide) ?_
        exact zv_ireturn dX7_write_34 rfl ⟨by simp [a_write, t_write, hs, hs2, g1], rfl, by simp [a_write, t_write, hs, hs2, g1]; exact h, fun _ _ _ => rfl⟩
    · skip
      have hs2 : s_rng of 0 7 = true := by simpa using zb_0.mp c13
      refine zv_bipushv (v := (-2)) dX7_write_16 (by decide) ?_
      exact zv_ireturn dX7_write_18 rfl ⟨by simp [a_write, t_write, hs, hs2], rfl, by simp [a_write, t_write, hs, hs2]; exact h, fun _ _ _ => rfl⟩
  · skip
    have hs : s_no r = true := by simpa using zb_0.mp c4
    refine zv_iconstv (v := (-1)) dX7_write_7 (by decide) ?_
    exact zv_ireturn dX7_write_8 rfl ⟨by simp [a_write, t_write, hs], rfl, by simp [a_write, t_write, hs]; exact h, fun _ _ _ => rfl⟩
set_option maxRecDepth 20000 in
set_option maxHeartbeats 1000000 in
theorem xX_size {G : zh_G} {l : Launch} {f : Nat → va_E} {nn : Nat} {σ : sg} {R P N D : Nat} {ra pa : Nat → Nat} (h : cP G f nn σ R P ra pa) (hi : iv σ R P N D) {r : Int32} : zc G l yX7_size cX7_size 2 (some .int) 2 [.ref (zg_B G), .int r] (f, nn) 0 0 (cN G f nn (t_size σ r) R P ra pa (some (.int (a_size σ r)))) := by
  refine zc.of (by decide) (Nat.le_of_ble_eq_true rfl) ?_
  obtain ⟨rg, er, er2⟩ := c_r h
  have b0 : zg_B G < nn := c_b (x := 0) (by decide) h
  have b1 : zg_B G + 1 < nn := c_b (by decide) h
  have b2 : zg_B G + 2 < nn := c_b (by decide) h
  have b4 : zg_B G + 4 < nn := c_b (by decide) h
  have b17 : zg_B G + 17 < nn := c_b (by decide) h
  refine zv_iload_n dX7_size_0 rfl ?_
  refine zv_callSq (mc := 0) (ms := 0) zm_X7_36 zkyX7_isRack cX_isRack rfl rfl (Nat.le_of_ble_eq_true rfl) (by decide) dX7_size_1 ?_
  refine zv_if_ne (tgt := 9) dX7_size_4 (by decide) (fun c4 => ?_) (fun c4 => ?_)
  · skip
    have hs : s_no r = false := by simpa using zb_n.mp c4
    have hr : vp_in r 10 := no_in hs
    refine zv_aload_n dX7_size_9 rfl ?_
    refine zv_aload_n dX7_size_10 rfl ?_
    refine zv_get (ci := 5) (fs := cob (zg_B G) σ) zf_X7_11_5 (c_o h) (Nat.le_refl _) b0 rfl dX7_size_11 ?_
    refine zv_iload_n dX7_size_14 rfl ?_
    refine zv_aald3 er (by omega) b1 hr dX7_size_15 ?_
    rw [rk_val h hr er2]
    refine zv_callSq (mc := 0) (ms := 0) zm_X7_98 zkyX7_rowFault (u_rowF h hi (iv_tw hi hr)) rfl rfl (Nat.le_of_ble_eq_true rfl) (by decide) dX7_size_16 ?_
    rw [szF_eq]
    refine zv_aload_n dX7_size_19 rfl ?_
    refine zv_get (ci := 5) (fs := cob (zg_B G) σ) zf_X7_11_5 (c_o h) (Nat.le_refl _) b0 rfl dX7_size_20 ?_
    refine zv_iload_n dX7_size_23 rfl ?_
    refine zv_aald3 er (by omega) b1 hr dX7_size_24 ?_
    rw [rk_val h hr er2]
    refine zv_callSq (mc := 0) (ms := 0) zm_X7_102 zkyX7_placesOf (u_plc h hi (iv_tw hi hr)) rfl rfl (Nat.le_of_ble_eq_true rfl) (by decide) dX7_size_25 ?_
    refine zX_callV h zm_X7_79 zkyX7_answer rfl (x_ans h (szF_in _ _)) rfl rfl (Nat.le_of_ble_eq_true rfl) (by decide) dX7_size_28 (fun f28 h3 k3 => ?_)
    exact zv_ireturn dX7_size_31 rfl ⟨by rw [show a_size σ r = s_ans (s_szF σ r) (if s_szF σ r ≤ 0 then xS σ (xW σ r) else 0) by simp [a_size, hs]]; rw [ans_g (szF_in σ r) (fun hz => ?_)]; rw [if_pos (szF_3 (by rw [hz]; decide)), if_pos (by rw [hz]; decide)], rfl, by rw [show t_size σ r = s_ansS σ (s_szF σ r) by simp [t_size, hs]]; exact h3, k3⟩
  · skip
    have hs : s_no r = true := by simpa using zb_0.mp c4
    refine zv_iconstv (v := (-1)) dX7_size_7 (by decide) ?_
    exact zv_ireturn dX7_size_8 rfl ⟨by simp [a_size, t_size, hs], rfl, by simp [a_size, t_size, hs]; exact h, fun _ _ _ => rfl⟩
set_option maxRecDepth 20000 in
set_option maxHeartbeats 1000000 in
theorem xX_within {G : zh_G} {l : Launch} {f : Nat → va_E} {nn : Nat} {σ : sg} {R P N D : Nat} {ra pa : Nat → Nat} (h : cP G f nn σ R P ra pa) (hi : iv σ R P N D) {r i j : Int32} : zc G l yX7_within cX7_within 4 (some .int) 5 [.ref (zg_B G), .int r, .int i, .int j] (f, nn) 0 0 (cN G f nn (t_within σ r i j) R P ra pa (some (.int (a_within σ r i j)))) := by
  refine zc.of (by decide) (Nat.le_of_ble_eq_true rfl) ?_
  obtain ⟨rg, er, er2⟩ := c_r h
  have b0 : zg_B G < nn := c_b (x := 0) (by decide) h
  have b1 : zg_B G + 1 < nn := c_b (by decide) h
  have b2 : zg_B G + 2 < nn := c_b (by decide) h
  have b4 : zg_B G + 4 < nn := c_b (by decide) h
  have b17 : zg_B G + 17 < nn := c_b (by decide) h
  refine zv_iload_n dX7_within_0 rfl ?_
  refine zv_callSq (mc := 0) (ms := 0) zm_X7_36 zkyX7_isRack cX_isRack rfl rfl (Nat.le_of_ble_eq_true rfl) (by decide) dX7_within_1 ?_
  refine zv_if_ne (tgt := 9) dX7_within_4 (by decide) (fun c4 => ?_) (fun c4 => ?_)
  · skip
    have hs : s_no r = false := by simpa using zb_n.mp c4
    have hr : vp_in r 10 := no_in hs
    refine zv_aload_n dX7_within_9 rfl ?_
    refine zv_aload_n dX7_within_10 rfl ?_
    refine zv_aload_n dX7_within_11 rfl ?_
    refine zv_get (ci := 5) (fs := cob (zg_B G) σ) zf_X7_11_5 (c_o h) (Nat.le_refl _) b0 rfl dX7_within_12 ?_
    refine zv_iload_n dX7_within_15 rfl ?_
    refine zv_aald3 er (by omega) b1 hr dX7_within_16 ?_
    rw [rk_val h hr er2]
    refine zv_iload_n dX7_within_17 rfl ?_
    refine zv_iload_n dX7_within_18 rfl ?_
    refine zX_callV h zm_X7_105 zkyX7_readWithin rfl (x_rdW h hi hr) rfl rfl (Nat.le_of_ble_eq_true rfl) (by decide) dX7_within_19 (fun f19 h1 k1 => ?_)
    refine zv_iconstv (v := 1) dX7_within_22 (by decide) ?_
    refine zX_callV h1 zm_X7_79 zkyX7_answer rfl (x_ans h1 (wiF_in _ _ _ _)) rfl rfl (Nat.le_of_ble_eq_true rfl) (by decide) dX7_within_23 (fun f23 h3 k3 => ?_)
    exact zv_ireturn dX7_within_26 rfl ⟨by simp [a_within, hs], rfl, by rw [show t_within σ r i j = s_ansS (s_wiS σ r i j) (s_wiF σ r i j) by simp [t_within, hs]]; exact h3, fun a h1 h2 => (k3 a h1 h2).trans (k1 a h1 h2)⟩
  · skip
    have hs : s_no r = true := by simpa using zb_0.mp c4
    refine zv_iconstv (v := (-1)) dX7_within_7 (by decide) ?_
    exact zv_ireturn dX7_within_8 rfl ⟨by simp [a_within, t_within, hs], rfl, by simp [a_within, t_within, hs]; exact h, fun _ _ _ => rfl⟩
set_option maxRecDepth 20000 in
set_option maxHeartbeats 1000000 in
theorem xX_into {G : zh_G} {l : Launch} {f : Nat → va_E} {nn : Nat} {σ : sg} {R P N D : Nat} {ra pa : Nat → Nat} (h : cP G f nn σ R P ra pa) (hi : iv σ R P N D) {r i j v : Int32} : zc G l yX7_into cX7_into 5 (some .int) 5 [.ref (zg_B G), .int r, .int i, .int j, .int v] (f, nn) 0 0 (cN G f nn (t_into σ r i j v) R P ra pa (some (.int (a_into σ r i j)))) := by
  refine zc.of (by decide) (Nat.le_of_ble_eq_true rfl) ?_
  obtain ⟨rg, er, er2⟩ := c_r h
  have b0 : zg_B G < nn := c_b (x := 0) (by decide) h
  have b1 : zg_B G + 1 < nn := c_b (by decide) h
  have b2 : zg_B G + 2 < nn := c_b (by decide) h
  have b4 : zg_B G + 4 < nn := c_b (by decide) h
  have b17 : zg_B G + 17 < nn := c_b (by decide) h
  refine zv_iload_n dX7_into_0 rfl ?_
  refine zv_callSq (mc := 0) (ms := 0) zm_X7_36 zkyX7_isRack cX_isRack rfl rfl (Nat.le_of_ble_eq_true rfl) (by decide) dX7_into_1 ?_
  refine zv_if_ne (tgt := 9) dX7_into_4 (by decide) (fun c4 => ?_) (fun c4 => ?_)
  · skip
    have hs : s_no r = false := by simpa using zb_n.mp c4
    have hr : vp_in r 10 := no_in hs
    refine zv_aload_n dX7_into_9 rfl ?_
    refine zv_aload_n dX7_into_10 rfl ?_
    refine zv_aload_n dX7_into_11 rfl ?_
    refine zv_get (ci := 5) (fs := cob (zg_B G) σ) zf_X7_11_5 (c_o h) (Nat.le_refl _) b0 rfl dX7_into_12 ?_
    refine zv_iload_n dX7_into_15 rfl ?_
    refine zv_aald3 er (by omega) b1 hr dX7_into_16 ?_
    rw [rk_val h hr er2]
    refine zv_iload_n dX7_into_17 rfl ?_
    refine zv_iload_n dX7_into_18 rfl ?_
    refine zv_iload dX7_into_19 rfl ?_
    refine zX_callV h zm_X7_109 zkyX7_writeWithin rfl (x_wrW h hi hr) rfl rfl (Nat.le_of_ble_eq_true rfl) (by decide) dX7_into_21 (fun f21 h1 k1 => ?_)
    refine zv_iconstv (v := 1) dX7_into_24 (by decide) ?_
    refine zX_callV h1 zm_X7_79 zkyX7_answer rfl (x_ans h1 (inF_in _ _ _ _)) rfl rfl (Nat.le_of_ble_eq_true rfl) (by decide) dX7_into_25 (fun f25 h3 k3 => ?_)
    exact zv_ireturn dX7_into_28 rfl ⟨by simp [a_into, hs], rfl, by rw [show t_into σ r i j v = s_ansS (s_inS σ r i j v) (s_inF σ r i j) by simp [t_into, hs]]; exact h3, fun a h1 h2 => (k3 a h1 h2).trans (k1 a h1 h2)⟩
  · skip
    have hs : s_no r = true := by simpa using zb_0.mp c4
    refine zv_iconstv (v := (-1)) dX7_into_7 (by decide) ?_
    exact zv_ireturn dX7_into_8 rfl ⟨by simp [a_into, t_into, hs], rfl, by simp [a_into, t_into, hs]; exact h, fun _ _ _ => rfl⟩
