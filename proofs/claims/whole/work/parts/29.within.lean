section WIT
variable {G : zh_G} {l : Launch} {f : Nat → va_E} {nn : Nat} {σ : sg} {R P N D : Nat} {ra pa : Nat → Nat}
theorem hold_hc (ra pa : Nat → Nat) (σ : sg) (k : Int32) (v : Int64) : hcell ra pa (s_hold σ k v) = .inr (0, [.int k, .long v, .null]) := rfl
theorem gF_lt {σ : sg} {t w i : Int32} : 0 < s_gF σ t w i ↔ ¬ s_gF σ t w i = 0 := by
  rw [← Int32.not_le, le0_4 (gF_in σ t w i)]
set_option maxHeartbeats 2000000 in
theorem x_rdW (h : cP G f nn σ R P ra pa) (hi : iv σ R P N D) {r i j : Int32} (hr : vp_in r 10) : zc G l yX7_readWithin cX7_readWithin 5 (some .int) 4 [.ref (zg_B G), va_rf (adr ra pa (xT σ r) (xW σ r)), .int i, .int j] (f, nn) 0 0 (cN G f nn (s_wiS σ r i j) R P ra pa (some (.int (s_wiF σ r i j)))) := by
  refine zc.ofr (by decide) [(0, .ref (zg_B G)), (1, va_rf (adr ra pa (xT σ r) (xW σ r))), (2, .int i), (3, .int j)] (by generalize adr ra pa (xT σ r) (xW σ r) = o; cases o <;> rfl) (by generalize adr ra pa (xT σ r) (xW σ r) = o; cases o <;> exact Nat.le_of_ble_eq_true rfl) ?_
  have b0 : zg_B G < nn := c_b (x := 0) (by decide) h
  have b3 : zg_B G + 3 < nn := c_b (by decide) h
  have ht := iv_tw hi hr
  refine zv_aload_n dX7_readWithin_0 rfl ?_
  refine zv_aloadr_n dX7_readWithin_1 rfl ?_
  refine zv_iload_n dX7_readWithin_2 rfl ?_
  refine zv_callVq (mc := 0) (ms := 0) zm_X7_191 zkyX7_takeInner (c_o h) (Nat.le_refl _) b0 rfl rfl (u_inner h hi ht) rfl rfl (Nat.le_of_ble_eq_true rfl) (by decide) dX7_readWithin_3 ?_
  refine zv_istore dX7_readWithin_6 (by decide) ?_
  refine zv_iload dX7_readWithin_8 rfl ?_
  by_cases h0 : s_gF σ (xT σ r) (xW σ r) i = 0
  · rw [if_pos h0, if_pos h0]
    have hwF : s_wiF σ r i j = s_rF (s_fiS σ r i) ((s_fiS σ r i).1 18) ((s_fiS σ r i).1 19) j 5 := by unfold s_wiF; rw [if_neg (by rw [gF_lt]; exact fun z => z h0)]
    have hwS : s_wiS σ r i j = s_readS (s_fiS σ r i) ((s_fiS σ r i).1 18) ((s_fiS σ r i).1 19) j 5 := by unfold s_wiS; rw [if_neg (by rw [gF_lt]; exact fun z => z h0)]
    by_cases hK : xK σ (xW σ r) < 8
    · rw [if_pos hK]
      have h18 : (s_fiS σ r i).1 18 = 1 := by
        unfold s_fiS s_fiT; rw [if_pos h0, if_pos hK]; rfl
      have e2 : s_wiF σ r i j = 2 := by rw [hwF, h18]; rfl
      have e3 : s_wiS σ r i j = s_fiS σ r i := by
        rw [hwS]; unfold s_readS
        rw [if_neg (by rw [h18]; exact (by decide : ¬ (2 : Int32) = 0))]
      refine zv_if_eq (tgt := 18) dX7_readWithin_10 (by decide) (fun c => absurd c (by decide)) (fun _ => ?_)
      refine zv_iload dX7_readWithin_13 rfl ?_
      refine zv_goto (tgt := 34) dX7_readWithin_15 (by decide) ?_
      refine zv_ireturn dX7_readWithin_34 rfl ⟨by rw [e2], rfl, ?_, fun a h1 h2 => vne (by omega)⟩
      rw [e3]
      exact cP_fi (cP_hand h _ _ _) r i
    · rw [if_neg hK]
      obtain ⟨htw, f18, f19⟩ := fi_in hi hr h0 hK
      refine zv_if_eq (tgt := 18) dX7_readWithin_10 (by decide) (fun _ => ?_) (fun c => absurd rfl c)
      have hP1 : cP G (va_up f (zg_B G + 3) (hcell ra pa (s_gets σ (xW σ r) i))) nn σ R P ra pa := cP_hand h _ _ _
      refine zv_aload_n dX7_readWithin_18 rfl ?_
      refine zv_get zf_X7_22_5 (c_o hP1) (Nat.le_refl _) b0 rfl dX7_readWithin_19 ?_
      refine zv_get (ci := 0) (fs := [.int (s_has (s_gets σ (xW σ r) i)), .long (s_val (s_gets σ (xW σ r) i)), va_rf (adr ra pa ((s_gets σ (xW σ r) i).1 2) ((s_gets σ (xW σ r) i).1 5))]) zf_X7_51_0 veq (by omega) b3 rfl dX7_readWithin_22 ?_
      refine zv_iload_n dX7_readWithin_25 rfl ?_
      refine zv_iconstv (v := 5) dX7_readWithin_26 (by decide) ?_
      refine zv_aload_n dX7_readWithin_27 rfl ?_
      refine zv_get zf_X7_18_5 (c_o hP1) (Nat.le_refl _) b0 rfl dX7_readWithin_28 ?_
      refine zv_callSq (mc := 0) (ms := 0) zm_X7_86 zkyX7_readPlace (u_read hP1 hi htw (b := 5) (by decide) (c_g hP1) (by omega) (by omega)) rfl rfl (Nat.le_of_ble_eq_true rfl) (by decide) dX7_readWithin_31 ?_
      have eF : s_rF σ ((s_gets σ (xW σ r) i).1 2) ((s_gets σ (xW σ r) i).1 5) j 5 = s_wiF σ r i j := by
        rw [hwF]; exact (rF_tw (fiS_p r i).1 f18 f19).symm
      rw [show nI 5 = (5 : Int32) from rfl, eF]
      by_cases hz : s_wiF σ r i j = 0
      · rw [if_pos hz]
        have hr0 := hz
        rw [hwF] at hr0
        have h3 := (rF_out hr0).1
        have eS : s_wiS σ r i j = s_hold (s_fiS σ r i) 5 (s_as 5 (xP σ ((s_gets σ (xW σ r) i).1 5) j)) := by
          rw [hwS]; unfold s_readS
          rw [if_pos hr0, f19 (by rw [← f18]; exact h3)]
          unfold xP; rw [(fiS_p r i).1]
        refine zv_ireturn dX7_readWithin_34 rfl ⟨rfl, rfl, ?_, fun a h1 h2 => ?_⟩
        · rw [eS]
          have hPf := cP_fi hP1 r i
          have := cP_gauge hPf (σ2 := s_hold (s_fiS σ r i) 5 (s_as 5 (xP σ ((s_gets σ (xW σ r) i).1 5) j))) rfl rfl rfl rfl rfl
          rw [hold_hc] at this
          exact this
        · show va_up _ _ _ _ = _
          rw [vne (by omega), vne (by omega)]
      · rw [if_neg hz]
        have eS : s_wiS σ r i j = s_fiS σ r i := by
          rw [hwS]; unfold s_readS; rw [if_neg (by rw [← hwF]; exact hz)]
        refine zv_ireturn dX7_readWithin_34 rfl ⟨rfl, rfl, ?_, fun a h1 h2 => vne (by omega)⟩
        rw [eS]; exact cP_fi hP1 r i
  · rw [if_neg h0, if_neg h0]
    have hwF : s_wiF σ r i j = s_gF σ (xT σ r) (xW σ r) i := by unfold s_wiF; rw [if_pos (by rw [gF_lt]; exact h0)]
    have hwS : s_wiS σ r i j = s_fiS σ r i := by unfold s_wiS; rw [if_pos (by rw [gF_lt]; exact h0)]
    refine zv_if_eq (tgt := 18) dX7_readWithin_10 (by decide) (fun c => absurd c h0) (fun _ => ?_)
    refine zv_iload dX7_readWithin_13 rfl ?_
    refine zv_goto (tgt := 34) dX7_readWithin_15 (by decide) ?_
    exact zv_ireturn dX7_readWithin_34 rfl ⟨by rw [hwF], rfl, by rw [hwS]; exact cP_fi h r i, fun _ _ _ => rfl⟩
theorem cN_sub {G : zh_G} {f f0 : Nat → va_E} {nn : Nat} {σ : sg} {R P : Nat} {ra pa : Nat → Nat} {v o : Option Value} {h' : zh_H} (hk : ∀ a : Nat, zg_B G + 18 ≤ a → a < zg_B G + 28 → f a = f0 a) (h : cN G f nn σ R P ra pa v o h') : cN G f0 nn σ R P ra pa v o h' := ⟨h.1, h.2.1, h.2.2.1, fun a h1 h2 => (h.2.2.2 a h1 h2).trans (hk a h1 h2)⟩
set_option maxHeartbeats 2000000 in
theorem x_wrW (h : cP G f nn σ R P ra pa) (hi : iv σ R P N D) {r i j v : Int32} (hr : vp_in r 10) : zc G l yX7_writeWithin cX7_writeWithin 6 (some .int) 4 [.ref (zg_B G), va_rf (adr ra pa (xT σ r) (xW σ r)), .int i, .int j, .int v] (f, nn) 0 0 (cN G f nn (s_inS σ r i j v) R P ra pa (some (.int (s_inF σ r i j)))) := by
  refine zc.ofr (by decide) [(0, .ref (zg_B G)), (1, va_rf (adr ra pa (xT σ r) (xW σ r))), (2, .int i), (3, .int j), (4, .int v)] (by generalize adr ra pa (xT σ r) (xW σ r) = o; cases o <;> rfl) (by generalize adr ra pa (xT σ r) (xW σ r) = o; cases o <;> exact Nat.le_of_ble_eq_true rfl) ?_
  have b0 : zg_B G < nn := c_b (x := 0) (by decide) h
  have b3 : zg_B G + 3 < nn := c_b (by decide) h
  have ht := iv_tw hi hr
  refine zv_aload_n dX7_writeWithin_0 rfl ?_
  refine zv_aloadr_n dX7_writeWithin_1 rfl ?_
  refine zv_iload_n dX7_writeWithin_2 rfl ?_
  refine zv_callVq (mc := 0) (ms := 0) zm_X7_191 zkyX7_takeInner (c_o h) (Nat.le_refl _) b0 rfl rfl (u_inner h hi ht) rfl rfl (Nat.le_of_ble_eq_true rfl) (by decide) dX7_writeWithin_3 ?_
  refine zv_istore dX7_writeWithin_6 (by decide) ?_
  refine zv_iload dX7_writeWithin_8 rfl ?_
  by_cases h0 : s_gF σ (xT σ r) (xW σ r) i = 0
  · rw [if_pos h0, if_pos h0]
    have hle : s_gF σ (xT σ r) (xW σ r) i ≤ 0 := (le0_4 (gF_in _ _ _ _)).mpr h0
    have hwF : s_inF σ r i j = s_wF (s_fiS σ r i) ((s_fiS σ r i).1 18) ((s_fiS σ r i).1 19) j 4 := by unfold s_inF; rw [if_pos hle]
    have hwS : s_inS σ r i j v = s_writeS (s_fiS σ r i) ((s_fiS σ r i).1 18) ((s_fiS σ r i).1 19) j 4 v.toInt64 := by unfold s_inS; rw [if_pos hle]
    by_cases hK : xK σ (xW σ r) < 8
    · rw [if_pos hK]
      have h18 : (s_fiS σ r i).1 18 = 1 := by
        unfold s_fiS s_fiT; rw [if_pos h0, if_pos hK]; rfl
      have e2 : s_inF σ r i j = 2 := by rw [hwF, h18]; rfl
      have e3 : s_inS σ r i j v = s_fiS σ r i := by
        rw [hwS]; unfold s_writeS
        rw [if_neg (by rw [h18]; exact (by decide : ¬ (2 : Int32) = 0))]
      refine zv_if_eq (tgt := 18) dX7_writeWithin_10 (by decide) (fun c => absurd c (by decide)) (fun _ => ?_)
      refine zv_iload dX7_writeWithin_13 rfl ?_
      refine zv_goto (tgt := 33) dX7_writeWithin_15 (by decide) ?_
      refine zv_ireturn dX7_writeWithin_33 rfl ⟨by rw [e2], rfl, ?_, fun a h1 h2 => vne (by omega)⟩
      rw [e3]
      exact cP_fi (cP_hand h _ _ _) r i
    · rw [if_neg hK]
      obtain ⟨htw, f18, f19⟩ := fi_in hi hr h0 hK
      refine zv_if_eq (tgt := 18) dX7_writeWithin_10 (by decide) (fun _ => ?_) (fun c => absurd rfl c)
      have hP1 : cP G (va_up f (zg_B G + 3) (hcell ra pa (s_gets σ (xW σ r) i))) nn σ R P ra pa := cP_hand h _ _ _
      refine zv_aload_n dX7_writeWithin_18 rfl ?_
      refine zv_get zf_X7_22_5 (c_o hP1) (Nat.le_refl _) b0 rfl dX7_writeWithin_19 ?_
      refine zv_get (ci := 0) (fs := [.int (s_has (s_gets σ (xW σ r) i)), .long (s_val (s_gets σ (xW σ r) i)), va_rf (adr ra pa ((s_gets σ (xW σ r) i).1 2) ((s_gets σ (xW σ r) i).1 5))]) zf_X7_51_0 veq (by omega) b3 rfl dX7_writeWithin_22 ?_
      refine zv_iload_n dX7_writeWithin_25 rfl ?_
      refine zv_iconstv (v := 4) dX7_writeWithin_26 (by decide) ?_
      refine zv_iload dX7_writeWithin_27 rfl ?_
      refine zv_i2l dX7_writeWithin_29 ?_
      have hPf := cP_fi hP1 r i
      refine zX_callS zm_X7_94 zkyX7_writePlace (u_write hPf (iv_fi hi r i) htw (b := 4) (by decide)) rfl rfl (Nat.le_of_ble_eq_true rfl) (by decide) dX7_writeWithin_30 (fun f1 h1 k1 => ?_)
      have eF : s_wF (s_fiS σ r i) ((s_gets σ (xW σ r) i).1 2) ((s_gets σ (xW σ r) i).1 5) j (nI 4) = s_inF σ r i j := by
        rw [hwF]; exact (wF_tw rfl f18 f19).symm
      have eS : s_writeS (s_fiS σ r i) ((s_gets σ (xW σ r) i).1 2) ((s_gets σ (xW σ r) i).1 5) j (nI 4) v.toInt64 = s_inS σ r i j v := by
        rw [hwS]; unfold s_writeS
        rw [show (s_wF (s_fiS σ r i) ((s_fiS σ r i).1 18) ((s_fiS σ r i).1 19) j 4) = s_inF σ r i j from hwF.symm, eF]
        by_cases hz : s_inF σ r i j = 0
        · rw [if_pos hz, if_pos hz]
          rw [hwF] at hz
          rw [f19 (by rw [← f18]; exact (wF_out hz).1)]; rfl
        · rw [if_neg hz, if_neg hz]
      rw [eF]
      rw [eS] at h1
      refine zv_ireturn dX7_writeWithin_33 rfl ⟨rfl, rfl, h1, fun a h2 h3 => (k1 a h2 h3).trans (vne (by omega))⟩
  · rw [if_neg h0, if_neg h0]
    have hle : ¬ s_gF σ (xT σ r) (xW σ r) i ≤ 0 := fun z => h0 ((le0_4 (gF_in _ _ _ _)).mp z)
    have hwF : s_inF σ r i j = s_gF σ (xT σ r) (xW σ r) i := by unfold s_inF; rw [if_neg hle]
    have hwS : s_inS σ r i j v = s_fiS σ r i := by unfold s_inS; rw [if_neg hle]
    refine zv_if_eq (tgt := 18) dX7_writeWithin_10 (by decide) (fun c => absurd c h0) (fun _ => ?_)
    refine zv_iload dX7_writeWithin_13 rfl ?_
    refine zv_goto (tgt := 33) dX7_writeWithin_15 (by decide) ?_
    exact zv_ireturn dX7_writeWithin_33 rfl ⟨by rw [hwF], rfl, by rw [hwS]; exact cP_fi h r i, fun _ _ _ => rfl⟩
end WIT
