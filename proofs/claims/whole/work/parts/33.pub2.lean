theorem gF_fi {σ : sg} {R P N D : Nat} (hi : iv σ R P N D) {r : Int32} (hr : vp_in r 10) : s_gF σ (xT σ r) (xW σ r) 0 = s_fiF σ r := by
  unfold s_fiF s_szF s_gF
  rcases iv_tw hi hr with e | ⟨e, p, -⟩ | ⟨e, q, hq, ew⟩
  · rw [e]; rfl
  · rw [e]; rfl
  · rw [e]
    show (if s_out 0 (xS σ (xW σ r)) = true then (3 : Int32) else 0) = (if xS σ (xW σ r) = 0 then 3 else 0)
    have hR := hi.1.2
    obtain ⟨-, ⟨s, hs, es⟩, -⟩ := hi.2.2.2.2.2.2.1 q hq
    rw [ew, xs (by omega), es, co_out 0 hs]
    unfold co
    by_cases h0 : s = 0
    · subst h0; rfl
    · have hd : ¬ decide ((0 : Int32) < 0 ∨ nI s ≤ 0) = true := by
        rw [decide_eq_true_iff, show (0 : Int32) = nI 0 from rfl, nI_leI (by omega) (by decide), nI_ltI (by decide) (by decide)]
        omega
      have he : ¬ nI s = 0 := by rw [show (0 : Int32) = nI 0 from rfl, nI_eq (by omega) (by decide)]; exact h0
      rw [if_neg hd, if_neg he]
theorem s_bits_f {p : Nat → Bool} (h : ∀ j, p j = false) : ∀ (m k : Nat) (acc : Int32), s_bits p m k acc = acc := by
  intro m
  induction m with
  | zero => intro k acc; rfl
  | succ m ih =>
    intro k acc
    show s_bits p m (k + 1) (acc ||| (if p k = true then _ else 0)) = acc
    rw [h k, ih]; simp
theorem fi_0 {σ : sg} {r : Int32} (h : s_fiF σ r = 0) : xT σ r = 3 := fiF_3 h
theorem u_kT {G : zh_G} {l : Launch} {f : Nat → va_E} {nn : Nat} {σ : sg} {R P N D : Nat} {ra pa : Nat → Nat} (h : cP G f nn σ R P ra pa) (hi : iv σ R P N D) {t w : Int32} (ht : tw R P t w) : zc G l yX7_kindsTaken cX7_kindsTaken 4 (some .int) 1 [va_rf (adr ra pa t w)] (f, nn) 0 0 (fun o h' => o = some (.int (if t = 3 then s_bits (s_kp true (xK σ w)) 8 0 0 else 0)) ∧ h' = (f, nn)) := by
  rcases ht with rfl | ⟨rfl, p, hp1, hp2, rfl⟩ | ⟨rfl, q, hq, rfl⟩
  · exact cX_kindsTaken0
  · have := hi.2.1.2
    rw [adr_2 ra pa (by omega)]
    obtain ⟨e, b1, b2, -⟩ := vwP h hp1 hp2
    exact cX_kindsTakenP e b1 b2
  · have hR := hi.1.2
    rw [adr_3 ra pa (by omega), if_pos rfl, xk (by omega)]
    obtain ⟨⟨k, hk10, ek⟩, -, -⟩ := hi.2.2.2.2.2.2.1 q hq
    by_cases hK : σ.2.2.1 9 q < 8
    · obtain ⟨s, num, hs, es, e, e2, ⟨b1, b2, b3, b4⟩, -⟩ := vwN h hi hq hK
      have hk8 : k < 8 := by rw [ek] at hK; exact (nI_lt8 hk10).mp hK
      rw [show s_bits (s_kp true (σ.2.2.1 9 q)) 8 0 0 = s_bits (fun j => gi (nI j) (σ.2.2.1 9 q)) 8 0 0 from s_bits_cg 8 0 0 (fun j _ hj => by
        unfold s_kp
        rw [decide_eq_true hK, Bool.true_and, ek]
        show s_goes (nI j) (nI k) = gi (nI j) (nI k)
        exact (gi_n (by omega) hk8).symm)]
      exact cX_kindsTakenN e e2 b1 b2 b3 b4 hs
    · obtain ⟨s, num, hs, es, e, e2, ⟨b1, b2, b3, b4⟩, -⟩ := vwT h hi hq hK
      rw [s_bits_f (fun j => by unfold s_kp; rw [decide_eq_false hK, Bool.false_and])]
      exact cX_kindsTakenT e e2 b1 b2 b3 b4 hs
theorem u_kG {G : zh_G} {l : Launch} {f : Nat → va_E} {nn : Nat} {σ : sg} {R P N D : Nat} {ra pa : Nat → Nat} (h : cP G f nn σ R P ra pa) (hi : iv σ R P N D) {t w : Int32} (ht : tw R P t w) : zc G l yX7_kindsGiven cX7_kindsGiven 4 (some .int) 1 [va_rf (adr ra pa t w)] (f, nn) 0 0 (fun o h' => o = some (.int (if t = 3 then s_bits (s_kp false (xK σ w)) 8 0 0 else 0)) ∧ h' = (f, nn)) := by
  rcases ht with rfl | ⟨rfl, p, hp1, hp2, rfl⟩ | ⟨rfl, q, hq, rfl⟩
  · exact cX_kindsGiven0
  · have := hi.2.1.2
    rw [adr_2 ra pa (by omega)]
    obtain ⟨e, b1, b2, -⟩ := vwP h hp1 hp2
    exact cX_kindsGivenP e b1 b2
  · have hR := hi.1.2
    rw [adr_3 ra pa (by omega), if_pos rfl, xk (by omega)]
    obtain ⟨⟨k, hk10, ek⟩, -, -⟩ := hi.2.2.2.2.2.2.1 q hq
    by_cases hK : σ.2.2.1 9 q < 8
    · obtain ⟨s, num, hs, es, e, e2, ⟨b1, b2, b3, b4⟩, -⟩ := vwN h hi hq hK
      have hk8 : k < 8 := by rw [ek] at hK; exact (nI_lt8 hk10).mp hK
      rw [show s_bits (s_kp false (σ.2.2.1 9 q)) 8 0 0 = s_bits (fun j => gi (σ.2.2.1 9 q) (nI j)) 8 0 0 from s_bits_cg 8 0 0 (fun j _ hj => by
        unfold s_kp
        rw [decide_eq_true hK, Bool.true_and, ek]
        show s_goes (nI k) (nI j) = gi (nI k) (nI j)
        exact (gi_n hk8 (by omega)).symm)]
      exact cX_kindsGivenN e e2 b1 b2 b3 b4 hs
    · obtain ⟨s, num, hs, es, e, e2, ⟨b1, b2, b3, b4⟩, -⟩ := vwT h hi hq hK
      rw [s_bits_f (fun j => by unfold s_kp; rw [decide_eq_false hK, Bool.false_and])]
      exact cX_kindsGivenT e e2 b1 b2 b3 b4 hs
set_option maxRecDepth 20000 in
set_option maxHeartbeats 1000000 in
theorem xX_takes {G : zh_G} {l : Launch} {f : Nat → va_E} {nn : Nat} {σ : sg} {R P N D : Nat} {ra pa : Nat → Nat} (h : cP G f nn σ R P ra pa) (hi : iv σ R P N D) {r : Int32} : zc G l yX7_takes cX7_takes 2 (some .int) 2 [.ref (zg_B G), .int r] (f, nn) 0 0 (cN G f nn (t_kinds σ r) R P ra pa (some (.int (a_kinds σ r true)))) := by
  refine zc.of (by decide) (Nat.le_of_ble_eq_true rfl) ?_
  obtain ⟨rg, er, er2⟩ := c_r h
  have b0 : zg_B G < nn := c_b (x := 0) (by decide) h
  have b1 : zg_B G + 1 < nn := c_b (by decide) h
  have b2 : zg_B G + 2 < nn := c_b (by decide) h
  have b4 : zg_B G + 4 < nn := c_b (by decide) h
  have b17 : zg_B G + 17 < nn := c_b (by decide) h
  refine zv_iload_n dX7_takes_0 rfl ?_
  refine zv_callSq (mc := 0) (ms := 0) zm_X7_36 zkyX7_isRack cX_isRack rfl rfl (Nat.le_of_ble_eq_true rfl) (by decide) dX7_takes_1 ?_
  refine zv_if_ne (tgt := 9) dX7_takes_4 (by decide) (fun c4 => ?_) (fun c4 => ?_)
  · skip
    have hs : s_no r = false := by simpa using zb_n.mp c4
    have hr : vp_in r 10 := no_in hs
    refine zv_aload_n dX7_takes_9 rfl ?_
    refine zv_aload_n dX7_takes_10 rfl ?_
    refine zv_get (ci := 5) (fs := cob (zg_B G) σ) zf_X7_11_5 (c_o h) (Nat.le_refl _) b0 rfl dX7_takes_11 ?_
    refine zv_iload_n dX7_takes_14 rfl ?_
    refine zv_aald3 er (by omega) b1 hr dX7_takes_15 ?_
    rw [rk_val h hr er2]
    refine zv_iconstv (v := 0) dX7_takes_16 (by decide) ?_
    refine zv_callSq (mc := 0) (ms := 0) zm_X7_121 zkyX7_placeFault (u_plF h hi (iv_tw hi hr)) rfl rfl (Nat.le_of_ble_eq_true rfl) (by decide) dX7_takes_17 ?_
    rw [gF_fi hi hr]
    refine zv_aload_n dX7_takes_20 rfl ?_
    refine zv_get (ci := 5) (fs := cob (zg_B G) σ) zf_X7_11_5 (c_o h) (Nat.le_refl _) b0 rfl dX7_takes_21 ?_
    refine zv_iload_n dX7_takes_24 rfl ?_
    refine zv_aald3 er (by omega) b1 hr dX7_takes_25 ?_
    rw [rk_val h hr er2]
    refine zv_callSq (mc := 0) (ms := 0) zm_X7_125 zkyX7_kindsTaken (u_kT h hi (iv_tw hi hr)) rfl rfl (Nat.le_of_ble_eq_true rfl) (by decide) dX7_takes_26 ?_
    refine zX_callV h zm_X7_79 zkyX7_answer rfl (x_ans h (fiF_in _ _)) rfl rfl (Nat.le_of_ble_eq_true rfl) (by decide) dX7_takes_29 (fun f29 h3 k3 => ?_)
    exact zv_ireturn dX7_takes_32 rfl ⟨by rw [show a_kinds σ r true = s_ans (s_fiF σ r) (if s_fiF σ r = 0 then s_bits (s_kp true (xK σ (xW σ r))) 8 0 0 else 0) by simp [a_kinds, hs]]; rw [ans_g (fiF_in σ r) (fun hz => ?_)]; rw [if_pos (fi_0 hz), if_pos hz], rfl, by rw [show t_kinds σ r = s_ansS σ (s_fiF σ r) by simp [t_kinds, hs]]; exact h3, k3⟩
  · skip
    have hs : s_no r = true := by simpa using zb_0.mp c4
    refine zv_iconstv (v := (-1)) dX7_takes_7 (by decide) ?_
    exact zv_ireturn dX7_takes_8 rfl ⟨by simp [a_kinds, t_kinds, hs], rfl, by simp [a_kinds, t_kinds, hs]; exact h, fun _ _ _ => rfl⟩
set_option maxRecDepth 20000 in
set_option maxHeartbeats 1000000 in
theorem xX_gives {G : zh_G} {l : Launch} {f : Nat → va_E} {nn : Nat} {σ : sg} {R P N D : Nat} {ra pa : Nat → Nat} (h : cP G f nn σ R P ra pa) (hi : iv σ R P N D) {r : Int32} : zc G l yX7_gives cX7_gives 2 (some .int) 2 [.ref (zg_B G), .int r] (f, nn) 0 0 (cN G f nn (t_kinds σ r) R P ra pa (some (.int (a_kinds σ r false)))) := by
  refine zc.of (by decide) (Nat.le_of_ble_eq_true rfl) ?_
  obtain ⟨rg, er, er2⟩ := c_r h
  have b0 : zg_B G < nn := c_b (x := 0) (by decide) h
  have b1 : zg_B G + 1 < nn := c_b (by decide) h
  have b2 : zg_B G + 2 < nn := c_b (by decide) h
  have b4 : zg_B G + 4 < nn := c_b (by decide) h
  have b17 : zg_B G + 17 < nn := c_b (by decide) h
  refine zv_iload_n dX7_gives_0 rfl ?_
  refine zv_callSq (mc := 0) (ms := 0) zm_X7_36 zkyX7_isRack cX_isRack rfl rfl (Nat.le_of_ble_eq_true rfl) (by decide) dX7_gives_1 ?_
  refine zv_if_ne (tgt := 9) dX7_gives_4 (by decide) (fun c4 => ?_) (fun c4 => ?_)
  · skip
    have hs : s_no r = false := by simpa using zb_n.mp c4
    have hr : vp_in r 10 := no_in hs
    refine zv_aload_n dX7_gives_9 rfl ?_
    refine zv_aload_n dX7_gives_10 rfl ?_
    refine zv_get (ci := 5) (fs := cob (zg_B G) σ) zf_X7_11_5 (c_o h) (Nat.le_refl _) b0 rfl dX7_gives_11 ?_
    refine zv_iload_n dX7_gives_14 rfl ?_
    refine zv_aald3 er (by omega) b1 hr dX7_gives_15 ?_
    rw [rk_val h hr er2]
    refine zv_iconstv (v := 0) dX7_gives_16 (by decide) ?_
    refine zv_callSq (mc := 0) (ms := 0) zm_X7_121 zkyX7_placeFault (u_plF h hi (iv_tw hi hr)) rfl rfl (Nat.le_of_ble_eq_true rfl) (by decide) dX7_gives_17 ?_
    rw [gF_fi hi hr]
    refine zv_aload_n dX7_gives_20 rfl ?_
    refine zv_get (ci := 5) (fs := cob (zg_B G) σ) zf_X7_11_5 (c_o h) (Nat.le_refl _) b0 rfl dX7_gives_21 ?_
    refine zv_iload_n dX7_gives_24 rfl ?_
    refine zv_aald3 er (by omega) b1 hr dX7_gives_25 ?_
    rw [rk_val h hr er2]
    refine zv_callSq (mc := 0) (ms := 0) zm_X7_128 zkyX7_kindsGiven (u_kG h hi (iv_tw hi hr)) rfl rfl (Nat.le_of_ble_eq_true rfl) (by decide) dX7_gives_26 ?_
    refine zX_callV h zm_X7_79 zkyX7_answer rfl (x_ans h (fiF_in _ _)) rfl rfl (Nat.le_of_ble_eq_true rfl) (by decide) dX7_gives_29 (fun f29 h3 k3 => ?_)
    exact zv_ireturn dX7_gives_32 rfl ⟨by rw [show a_kinds σ r false = s_ans (s_fiF σ r) (if s_fiF σ r = 0 then s_bits (s_kp false (xK σ (xW σ r))) 8 0 0 else 0) by simp [a_kinds, hs]]; rw [ans_g (fiF_in σ r) (fun hz => ?_)]; rw [if_pos (fi_0 hz), if_pos hz], rfl, by rw [show t_kinds σ r = s_ansS σ (s_fiF σ r) by simp [t_kinds, hs]]; exact h3, k3⟩
  · skip
    have hs : s_no r = true := by simpa using zb_0.mp c4
    refine zv_iconstv (v := (-1)) dX7_gives_7 (by decide) ?_
    exact zv_ireturn dX7_gives_8 rfl ⟨by simp [a_kinds, t_kinds, hs], rfl, by simp [a_kinds, t_kinds, hs]; exact h, fun _ _ _ => rfl⟩
set_option maxRecDepth 20000 in
set_option maxHeartbeats 1000000 in
theorem xX_told {G : zh_G} {l : Launch} {f : Nat → va_E} {nn : Nat} {σ : sg} {R P N D : Nat} {ra pa : Nat → Nat} (h : cP G f nn σ R P ra pa) (hi : iv σ R P N D) {r : Int32} : zc G l yX7_told cX7_told 4 (some .int) 1 [.ref (zg_B G), .int r] (f, nn) 0 0 (cN G f nn σ R P ra pa (some (.int (a_told σ r)))) := by
  refine zc.of (by decide) (Nat.le_of_ble_eq_true rfl) ?_
  obtain ⟨rg, er, er2⟩ := c_r h
  have b0 : zg_B G < nn := c_b (x := 0) (by decide) h
  have b1 : zg_B G + 1 < nn := c_b (by decide) h
  have b2 : zg_B G + 2 < nn := c_b (by decide) h
  have b4 : zg_B G + 4 < nn := c_b (by decide) h
  have b17 : zg_B G + 17 < nn := c_b (by decide) h
  refine zv_iload_n dX7_told_0 rfl ?_
  refine zv_callSq (mc := 0) (ms := 0) zm_X7_36 zkyX7_isRack cX_isRack rfl rfl (Nat.le_of_ble_eq_true rfl) (by decide) dX7_told_1 ?_
  refine zv_if_ne (tgt := 9) dX7_told_4 (by decide) (fun c4 => ?_) (fun c4 => ?_)
  · skip
    have hs : s_no r = false := by simpa using zb_n.mp c4
    have hr : vp_in r 10 := no_in hs
    rcases iv_tw hi hr with et | ⟨et, p, hp1, hp2, ew⟩ | ⟨et, q, hq, ew⟩
    · have ea : adr ra pa (xT σ r) (xW σ r) = none := by rw [et]; rfl
      refine zv_aload_n dX7_told_9 rfl ?_
      refine zv_get (ci := 5) (fs := cob (zg_B G) σ) zf_X7_11_5 (c_o h) (Nat.le_refl _) b0 rfl dX7_told_10 ?_
      refine zv_iload_n dX7_told_13 rfl ?_
      refine zv_aald3 er (by omega) b1 hr dX7_told_14 ?_
      rw [rk_val h hr er2, ea]
      refine zv_astorer_n dX7_told_15 (by decide) ?_
      refine zv_aload_nN dX7_told_16 rfl ?_
      refine zv_instN dX7_told_17 ?_
      refine zv_if_eq (tgt := 33) dX7_told_20 (by decide) (fun _ => ?_) (fun c => absurd rfl c)
      refine zv_aload_n dX7_told_33 rfl ?_
      refine zv_get (ci := 5) (fs := cob (zg_B G) σ) zf_X7_11_5 (c_o h) (Nat.le_refl _) b0 rfl dX7_told_34 ?_
      refine zv_iload_n dX7_told_37 rfl ?_
      refine zv_aald3 er (by omega) b1 hr dX7_told_38 ?_
      rw [rk_val h hr er2, ea]
      refine zv_astorer_n dX7_told_39 (by decide) ?_
      refine zv_aload_nN dX7_told_40 rfl ?_
      refine zv_instN dX7_told_41 ?_
      refine zv_if_eq (tgt := 67) dX7_told_44 (by decide) (fun _ => ?_) (fun c => absurd rfl c)
      refine zv_bipushv (v := (-9)) dX7_told_67 (by decide) ?_
      exact zv_ireturn dX7_told_69 rfl ⟨by unfold a_told; rw [if_neg (by rw [hs]; decide), if_pos et], rfl, h, fun _ _ _ => rfl⟩
    · have ea : adr ra pa (xT σ r) (xW σ r) = some (pa p) := by rw [et, ew, adr_2 ra pa (by have := hi.2.1.2; omega)]
      obtain ⟨pe, p1, p2, -⟩ := vwP h hp1 hp2
      refine zv_aload_n dX7_told_9 rfl ?_
      refine zv_get (ci := 5) (fs := cob (zg_B G) σ) zf_X7_11_5 (c_o h) (Nat.le_refl _) b0 rfl dX7_told_10 ?_
      refine zv_iload_n dX7_told_13 rfl ?_
      refine zv_aald3 er (by omega) b1 hr dX7_told_14 ?_
      rw [rk_val h hr er2, ea]
      refine zv_astore_n dX7_told_15 (by decide) ?_
      refine zv_aload_n dX7_told_16 rfl ?_
      refine zv_instNo (ci := 2) (fs := [.int (nI p), .int (σ.2.2.1 7 p)]) pe p1 p2 rfl zk_X7_151 (by decide +kernel) dX7_told_17 ?_
      refine zv_if_eq (tgt := 33) dX7_told_20 (by decide) (fun _ => ?_) (fun c => absurd rfl c)
      refine zv_aload_n dX7_told_33 rfl ?_
      refine zv_get (ci := 5) (fs := cob (zg_B G) σ) zf_X7_11_5 (c_o h) (Nat.le_refl _) b0 rfl dX7_told_34 ?_
      refine zv_iload_n dX7_told_37 rfl ?_
      refine zv_aald3 er (by omega) b1 hr dX7_told_38 ?_
      rw [rk_val h hr er2, ea]
      refine zv_astore_n dX7_told_39 (by decide) ?_
      refine zv_aload_n dX7_told_40 rfl ?_
      refine zv_instY (ci := 2) (fs := [.int (nI p), .int (σ.2.2.1 7 p)]) pe p1 p2 rfl zk_X7_63 (by decide +kernel) dX7_told_41 ?_
      refine zv_if_eq (tgt := 67) dX7_told_44 (by decide) (fun c => absurd c (by decide)) (fun _ => ?_)
      refine zv_aload_n dX7_told_47 rfl ?_
      refine zv_castY (ci := 2) (fs := [.int (nI p), .int (σ.2.2.1 7 p)]) pe p1 p2 rfl zk_X7_63 (by decide +kernel) dX7_told_48 ?_
      refine zv_astore_n dX7_told_51 (by decide) ?_
      refine zv_aload_n dX7_told_52 rfl ?_
      refine zv_get (ci := 2) (fs := [.int (nI p), .int (σ.2.2.1 7 p)]) zf_X7_154_2 pe p1 p2 rfl dX7_told_53 ?_
      refine zv_if_eq (tgt := 64) dX7_told_56 (by decide) (fun c56 => ?_) (fun c56 => ?_)
      · skip
        refine zv_bipushv (v := 11) dX7_told_64 (by decide) ?_
        exact zv_ireturn dX7_told_66 rfl ⟨by unfold a_told; rw [if_neg (by rw [hs]; decide), if_neg (by rw [et]; decide), if_neg (by rw [et]; decide), ew, xf (by have := hi.2.1.2; omega)]; first | rw [if_pos c56] | rw [if_neg c56], rfl, h, fun _ _ _ => rfl⟩
      · skip
        refine zv_bipushv (v := 12) dX7_told_59 (by decide) ?_
        refine zv_goto (tgt := 66) dX7_told_61 (by decide) ?_
        exact zv_ireturn dX7_told_66 rfl ⟨by unfold a_told; rw [if_neg (by rw [hs]; decide), if_neg (by rw [et]; decide), if_neg (by rw [et]; decide), ew, xf (by have := hi.2.1.2; omega)]; first | rw [if_pos c56] | rw [if_neg c56], rfl, h, fun _ _ _ => rfl⟩
    · have ea : adr ra pa (xT σ r) (xW σ r) = some (ra q) := by rw [et, ew, adr_3 ra pa (by have := hi.1.2; omega)]
      by_cases hK : σ.2.2.1 9 q < 8
      · obtain ⟨s, num, hs2, es, e, e2, ⟨p1, p2, p3, p4⟩, -⟩ := vwN h hi hq hK
        refine zv_aload_n dX7_told_9 rfl ?_
        refine zv_get (ci := 5) (fs := cob (zg_B G) σ) zf_X7_11_5 (c_o h) (Nat.le_refl _) b0 rfl dX7_told_10 ?_
        refine zv_iload_n dX7_told_13 rfl ?_
        refine zv_aald3 er (by omega) b1 hr dX7_told_14 ?_
        rw [rk_val h hr er2, ea]
        refine zv_astore_n dX7_told_15 (by decide) ?_
        refine zv_aload_n dX7_told_16 rfl ?_
        refine zv_instY (ci := 1) (fs := [.int (σ.2.2.1 9 q), .int (nI s), .ref (ra q + 1)]) e p1 p2 rfl zk_X7_151 (by decide +kernel) dX7_told_17 ?_
        refine zv_if_eq (tgt := 33) dX7_told_20 (by decide) (fun c => absurd c (by decide)) (fun _ => ?_)
        refine zv_aload_n dX7_told_23 rfl ?_
        refine zv_castY (ci := 1) (fs := [.int (σ.2.2.1 9 q), .int (nI s), .ref (ra q + 1)]) e p1 p2 rfl zk_X7_151 (by decide +kernel) dX7_told_24 ?_
        refine zv_astore_n dX7_told_27 (by decide) ?_
        refine zv_aload_n dX7_told_28 rfl ?_
        refine zv_get (ci := 1) (fs := [.int (σ.2.2.1 9 q), .int (nI s), .ref (ra q + 1)]) zf_X7_153_1 e p1 p2 rfl dX7_told_29 ?_
        exact zv_ireturn dX7_told_32 rfl ⟨by unfold a_told; rw [if_neg (by rw [hs]; decide), if_neg (by rw [et]; decide), if_pos et, ew, xk (by have := hi.1.2; omega)], rfl, h, fun _ _ _ => rfl⟩
      · obtain ⟨s, num, hs2, es, e, e2, ⟨p1, p2, p3, p4⟩, -⟩ := vwT h hi hq hK
        refine zv_aload_n dX7_told_9 rfl ?_
        refine zv_get (ci := 5) (fs := cob (zg_B G) σ) zf_X7_11_5 (c_o h) (Nat.le_refl _) b0 rfl dX7_told_10 ?_
        refine zv_iload_n dX7_told_13 rfl ?_
        refine zv_aald3 er (by omega) b1 hr dX7_told_14 ?_
        rw [rk_val h hr er2, ea]
        refine zv_astore_n dX7_told_15 (by decide) ?_
        refine zv_aload_n dX7_told_16 rfl ?_
        refine zv_instY (ci := 4) (fs := [.int (σ.2.2.1 9 q), .int (nI s), .ref (ra q + 1)]) e p1 p2 rfl zk_X7_151 (by decide +kernel) dX7_told_17 ?_
        refine zv_if_eq (tgt := 33) dX7_told_20 (by decide) (fun c => absurd c (by decide)) (fun _ => ?_)
        refine zv_aload_n dX7_told_23 rfl ?_
        refine zv_castY (ci := 4) (fs := [.int (σ.2.2.1 9 q), .int (nI s), .ref (ra q + 1)]) e p1 p2 rfl zk_X7_151 (by decide +kernel) dX7_told_24 ?_
        refine zv_astore_n dX7_told_27 (by decide) ?_
        refine zv_aload_n dX7_told_28 rfl ?_
        refine zv_get (ci := 4) (fs := [.int (σ.2.2.1 9 q), .int (nI s), .ref (ra q + 1)]) zf_X7_153_4 e p1 p2 rfl dX7_told_29 ?_
        exact zv_ireturn dX7_told_32 rfl ⟨by unfold a_told; rw [if_neg (by rw [hs]; decide), if_neg (by rw [et]; decide), if_pos et, ew, xk (by have := hi.1.2; omega)], rfl, h, fun _ _ _ => rfl⟩
  · skip
    have hs : s_no r = true := by simpa using zb_0.mp c4
    refine zv_iconstv (v := (-1)) dX7_told_7 (by decide) ?_
    exact zv_ireturn dX7_told_8 rfl ⟨by simp [a_told, hs], rfl, h, fun _ _ _ => rfl⟩
theorem cP_clear {G : zh_G} {f : Nat → va_E} {nn : Nat} {σ : sg} {R P : Nat} {ra pa : Nat → Nat} (h : cP G f nn σ R P ra pa) : cP G (va_up f (zg_B G) (.inr (5, (cob (zg_B G) σ).set 5 (.int 0)))) nn (t_clear σ) R P ra pa := by
  refine cP_gen h veq ?_ ?_ ?_ (vne (by omega)) (fun j hj => ?_) ?_ (fun a ha => vne (by omega)) rfl rfl rfl rfl
  · obtain ⟨rg, a, b⟩ := c_r h
    exact ⟨rg, by rw [vne (by omega)]; exact a, b⟩
  · rw [vne (by omega)]; exact h.2.2.2.1
  · obtain ⟨a, b, c, e⟩ := c_h h
    exact ⟨a, b, c, by rw [vne (by omega)]; exact e⟩
  · obtain ⟨oc, a, b⟩ := c_t h j hj
    exact ⟨oc, by rw [vne (by omega)]; exact a, fun hz => absurd hz (nI_pos (by omega))⟩
  · rw [vne (by omega)]; have z := c_f h; exact z
set_option maxRecDepth 20000 in
set_option maxHeartbeats 1000000 in
theorem xX_clear {G : zh_G} {l : Launch} {f : Nat → va_E} {nn : Nat} {σ : sg} {R P N D : Nat} {ra pa : Nat → Nat} (h : cP G f nn σ R P ra pa) (hi : iv σ R P N D)  : zc G l yX7_clear cX7_clear 2 (some .int) 0 [.ref (zg_B G)] (f, nn) 0 0 (cN G f nn (t_clear σ) R P ra pa (some (.int (σ.1 12)))) := by
  refine zc.of (by decide) (Nat.le_of_ble_eq_true rfl) ?_
  obtain ⟨rg, er, er2⟩ := c_r h
  have b0 : zg_B G < nn := c_b (x := 0) (by decide) h
  have b1 : zg_B G + 1 < nn := c_b (by decide) h
  have b2 : zg_B G + 2 < nn := c_b (by decide) h
  have b4 : zg_B G + 4 < nn := c_b (by decide) h
  have b17 : zg_B G + 17 < nn := c_b (by decide) h
  refine zv_aload_n dX7_clear_0 rfl ?_
  refine zv_get (ci := 5) (fs := cob (zg_B G) σ) zf_X7_131_5 (c_o h) (Nat.le_refl _) b0 rfl dX7_clear_1 ?_
  refine zv_istore_n dX7_clear_4 (by decide) ?_
  refine zv_aload_n dX7_clear_5 rfl ?_
  refine zv_iconstv (v := 0) dX7_clear_6 (by decide) ?_
  refine zv_put (fs := cob (zg_B G) σ) zfw_X7_131_5 (c_o h) (Nat.le_refl _) b0 rfl rfl (by simp [cob]) dX7_clear_7 ?_
  refine zv_iload_n dX7_clear_10 rfl ?_
  exact zv_ireturn dX7_clear_11 rfl ⟨rfl, rfl, cP_clear h, fun a h1 h2 => vne (by omega)⟩
theorem met_in {σ : sg} {R P N D : Nat} (hi : iv σ R P N D) {k : Int32} (h1 : ¬ k < 0) (h2 : k < σ.1 12) : ∃ j : Nat, j < N ∧ k = nI j := by
  obtain ⟨j, hj, rfl⟩ := nI_of h1
  have hN := hi.2.2.1.2
  rw [hi.2.2.1.1, nI_ltI hj (by omega)] at h2
  exact ⟨j, h2, rfl⟩
theorem met_out {σ : sg} {R P N D : Nat} (hi : iv σ R P N D) {k : Int32} (h : k < 0 ∨ ¬ k < σ.1 12) : a_met σ k = -9 := by
  unfold a_met
  rw [if_pos]
  unfold s_rng
  rw [decide_eq_true_iff]
  by_cases h1 : k < 0
  · exact Or.inl h1
  · right
    have h2 := h.resolve_left h1
    obtain ⟨j, hj, rfl⟩ := nI_of h1
    have hN := hi.2.2.1.2
    have hD := hi.2.2.2.1
    rw [hi.2.2.1.1, nI_ltI hj (by omega)] at h2
    rw [hD.1, Int32.lt_iff_toInt_lt, show (1 : Int32) = nI 1 from rfl, pk_sub_toInt (by omega) (by decide), nI_toInt hj]
    omega
theorem met_yes {σ : sg} {R P N D : Nat} (hi : iv σ R P N D) {j : Nat} (hj : j < N) : a_met σ (nI j) = if nI j < σ.1 14 then σ.2.2.1 15 j else -9 := by
  have hN := hi.2.2.1.2
  have hD := hi.2.2.2.1
  unfold a_met s_rng
  rw [hD.1, nI_clamp (by omega)]
  have e : (nI j < 0 ∨ nI D - 1 < nI j) ↔ ¬ nI j < nI D := by
    rw [nI_ltI (by omega) (by omega), show (nI D - 1 < nI j) ↔ (D : Int) - 1 < j by rw [Int32.lt_iff_toInt_lt, show (1 : Int32) = nI 1 from rfl, pk_sub_toInt (by omega) (by decide), nI_toInt (by omega)]; exact Iff.rfl]
    have := nI_pos (n := j) (by omega)
    constructor
    · rintro (z | z)
      · exact absurd z this
      · omega
    · intro z; right; omega
  by_cases hz : nI j < nI D
  · rw [if_neg (by rw [decide_eq_true_iff, e]; exact fun z => z hz), if_pos hz]
  · rw [if_pos (by rw [decide_eq_true_iff, e]; exact hz), if_neg hz]
set_option maxRecDepth 20000 in
set_option maxHeartbeats 1000000 in
theorem xX_met {G : zh_G} {l : Launch} {f : Nat → va_E} {nn : Nat} {σ : sg} {R P N D : Nat} {ra pa : Nat → Nat} (h : cP G f nn σ R P ra pa) (hi : iv σ R P N D) {k : Int32} : zc G l yX7_met cX7_met 2 (some .int) 0 [.ref (zg_B G), .int k] (f, nn) 0 0 (cN G f nn σ R P ra pa (some (.int (a_met σ k)))) := by
  refine zc.of (by decide) (Nat.le_of_ble_eq_true rfl) ?_
  obtain ⟨rg, er, er2⟩ := c_r h
  have b0 : zg_B G < nn := c_b (x := 0) (by decide) h
  have b1 : zg_B G + 1 < nn := c_b (by decide) h
  have b2 : zg_B G + 2 < nn := c_b (by decide) h
  have b4 : zg_B G + 4 < nn := c_b (by decide) h
  have b17 : zg_B G + 17 < nn := c_b (by decide) h
  refine zv_iload_n dX7_met_0 rfl ?_
  refine zv_if_lt (tgt := 12) dX7_met_1 (by decide) (fun c1 => ?_) (fun c1 => ?_)
  · skip
    refine zv_bipushv (v := (-9)) dX7_met_12 (by decide) ?_
    refine zv_goto (tgt := 26) dX7_met_14 (by decide) ?_
    exact zv_ireturn dX7_met_26 rfl (by first | exact ⟨by rw [met_out hi (Or.inl c1)], rfl, h, fun _ _ _ => rfl⟩ | exact ⟨by rw [met_out hi (Or.inr c9)], rfl, h, fun _ _ _ => rfl⟩ | exact ⟨by rw [met_yes hi hj, hoc (by rw [hN.1, nI_ltI (by omega) (by omega)]; exact hj)], rfl, h, fun _ _ _ => rfl⟩)
  · skip
    refine zv_iload_n dX7_met_4 rfl ?_
    refine zv_aload_n dX7_met_5 rfl ?_
    refine zv_get (ci := 5) (fs := cob (zg_B G) σ) zf_X7_131_5 (c_o h) (Nat.le_refl _) b0 rfl dX7_met_6 ?_
    refine zv_icmp_lt (tgt := 17) dX7_met_9 (by decide) (fun c9 => ?_) (fun c9 => ?_)
    · skip
      refine zv_aload_n dX7_met_17 rfl ?_
      refine zv_get (ci := 5) (fs := cob (zg_B G) σ) zf_X7_27_5 (c_o h) (Nat.le_refl _) b0 rfl dX7_met_18 ?_
      refine zv_iload_n dX7_met_21 rfl ?_
      obtain ⟨j, hj, rfl⟩ := met_in hi c1 c9
      have hN := hi.2.2.1
      obtain ⟨oc, est, hoc⟩ := c_t h j (by omega)
      refine zv_aald4 (c_s h) (by omega) b4 (vp_in_nI (by omega) (by decide)) dX7_met_22 ?_
      rw [nI_clamp (by omega), if_pos (by omega)]
      refine zv_get (ci := 3) (fs := [.int (σ.2.2.1 13 (5 * j)), .int (σ.2.2.1 13 (5 * j + 1)), .int (σ.2.2.1 13 (5 * j + 2)), .int (σ.2.2.1 13 (5 * j + 3)), .int (σ.2.2.1 13 (5 * j + 4)), .int oc]) zf_X7_145_3 est (by omega) (show zg_B G + 5 + j < nn by have := c_n h; omega) rfl dX7_met_23 ?_
      exact zv_ireturn dX7_met_26 rfl (by first | exact ⟨by rw [met_out hi (Or.inl c1)], rfl, h, fun _ _ _ => rfl⟩ | exact ⟨by rw [met_out hi (Or.inr c9)], rfl, h, fun _ _ _ => rfl⟩ | exact ⟨by rw [met_yes hi hj, hoc (by rw [hN.1, nI_ltI (by omega) (by omega)]; exact hj)], rfl, h, fun _ _ _ => rfl⟩)
    · skip
      refine zv_bipushv (v := (-9)) dX7_met_12 (by decide) ?_
      refine zv_goto (tgt := 26) dX7_met_14 (by decide) ?_
      exact zv_ireturn dX7_met_26 rfl (by first | exact ⟨by rw [met_out hi (Or.inl c1)], rfl, h, fun _ _ _ => rfl⟩ | exact ⟨by rw [met_out hi (Or.inr c9)], rfl, h, fun _ _ _ => rfl⟩ | exact ⟨by rw [met_yes hi hj, hoc (by rw [hN.1, nI_ltI (by omega) (by omega)]; exact hj)], rfl, h, fun _ _ _ => rfl⟩)
