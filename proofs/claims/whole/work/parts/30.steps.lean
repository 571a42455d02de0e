section STP
variable {G : zh_G} {l : Launch} {f : Nat → va_E} {nn : Nat} {σ : sg} {R P N D : Nat} {ra pa : Nat → Nat}
theorem back_si (τ σ : sg) (hA : τ.2.2 = σ.2.2) (h1 : ∀ k : Nat, ¬ k = 2 → ¬ k = 3 → ¬ k = 5 → τ.1 k = σ.1 k) : s_back τ σ = σ := by
  obtain ⟨a, b, c⟩ := σ
  obtain ⟨a2, b2, c2⟩ := τ
  have hA : c2 = c := hA
  subst hA
  show (upd (upd (upd a2 2 (a 2)) 3 (a 3)) 5 (a 5), b, c2) = (a, b, c2)
  congr 1
  funext k
  unfold upd
  by_cases h5 : k = 5
  · rw [if_pos h5, h5]
  · rw [if_neg h5]
    by_cases h3 : k = 3
    · rw [if_pos h3, h3]
    · rw [if_neg h3]
      by_cases h2 : k = 2
      · rw [if_pos h2, h2]
      · rw [if_neg h2]; exact h1 k h2 h3 h5
theorem back_sp (τ σ : sg) (n : Nat) (v : Int64) : s_back (sp τ n v) σ = (fun z : sg => sp z n v) (s_back τ σ) := rfl
set_option maxHeartbeats 2000000 in
theorem x_pass1 (h : cP G f nn σ R P ra pa) (hi : iv σ R P N D) {t w t2 w2 i : Int32} (ht : tw R P t w) (ht2 : tw R P t2 w2) {b : Nat} (hb : b < 8) : zc G l yX7_passPlace cX7_passPlace 6 (some .int) 3 [.ref (zg_B G), va_rf (adr ra pa t w), va_rf (adr ra pa t2 w2), .int i, .int (nI b)] (f, nn) 0 0 (cN G f nn (if s_rF σ t w i (nI b) = 0 then s_writeS σ t2 w2 i (nI b) (xP σ w i) else σ) R P ra pa (some (.int (if s_rF σ t w i (nI b) = 0 then s_wF σ t2 w2 i (nI b) else s_rF σ t w i (nI b))))) := by
  refine zc.ofr (by decide) [(0, .ref (zg_B G)), (1, va_rf (adr ra pa t w)), (2, va_rf (adr ra pa t2 w2)), (3, .int i), (4, .int (nI b))] (by generalize adr ra pa t w = o; generalize adr ra pa t2 w2 = o2; cases o <;> cases o2 <;> rfl) (by generalize adr ra pa t w = o; generalize adr ra pa t2 w2 = o2; cases o <;> cases o2 <;> exact Nat.le_of_ble_eq_true rfl) ?_
  have b0 : zg_B G < nn := c_b (x := 0) (by decide) h
  have b3 : zg_B G + 3 < nn := c_b (by decide) h
  obtain ⟨hk, hv, htt, e3⟩ := c_h h
  refine zv_aloadr_n dX7_passPlace_0 rfl ?_
  refine zv_iload_n dX7_passPlace_1 rfl ?_
  refine zv_iload dX7_passPlace_2 rfl ?_
  refine zv_aload_n dX7_passPlace_4 rfl ?_
  refine zv_get zf_X7_22_5 (c_o h) (Nat.le_refl _) b0 rfl dX7_passPlace_5 ?_
  refine zv_callSq (mc := 0) (ms := 0) zm_X7_86 zkyX7_readPlace (u_read h hi ht hb e3 (by omega) (by omega)) rfl rfl (Nat.le_of_ble_eq_true rfl) (by decide) dX7_passPlace_8 ?_
  refine zv_istore dX7_passPlace_11 (by decide) ?_
  refine zv_iload dX7_passPlace_13 rfl ?_
  by_cases h0 : s_rF σ t w i (nI b) = 0
  · rw [if_pos h0, if_pos h0, if_pos h0]
    refine zv_if_eq (tgt := 23) dX7_passPlace_15 (by decide) (fun _ => ?_) (fun c => absurd h0 c)
    have hP1 : cP G (va_up f (zg_B G + 3) (.inr (0, [.int (nI b), .long (s_as (nI b) (xP σ w i)), .null]))) nn σ R P ra pa := cP_hand h _ _ none
    refine zv_aloadr_n dX7_passPlace_23 rfl ?_
    refine zv_iload_n dX7_passPlace_24 rfl ?_
    refine zv_iload dX7_passPlace_25 rfl ?_
    refine zv_aload_n dX7_passPlace_27 rfl ?_
    refine zv_get zf_X7_22_5 (c_o hP1) (Nat.le_refl _) b0 rfl dX7_passPlace_28 ?_
    refine zv_get (ci := 0) (fs := [.int (nI b), .long (s_as (nI b) (xP σ w i)), .null]) zf_X7_90_0 veq (by omega) b3 rfl dX7_passPlace_31 ?_
    refine zX_callS zm_X7_94 zkyX7_writePlace (u_write hP1 hi ht2 hb) rfl rfl (Nat.le_of_ble_eq_true rfl) (by decide) dX7_passPlace_34 (fun f1 h1 k1 => ?_)
    have e : s_writeS σ t2 w2 i (nI b) (s_as (nI b) (xP σ w i)) = s_writeS σ t2 w2 i (nI b) (xP σ w i) := by unfold s_writeS; rw [as_idem hb]
    rw [e] at h1
    exact zv_ireturn dX7_passPlace_37 rfl ⟨rfl, rfl, h1, fun a h2 h3 => (k1 a h2 h3).trans (vne (by omega))⟩
  · rw [if_neg h0, if_neg h0, if_neg h0]
    refine zv_if_eq (tgt := 23) dX7_passPlace_15 (by decide) (fun c => absurd c h0) (fun _ => ?_)
    refine zv_iload dX7_passPlace_18 rfl ?_
    refine zv_goto (tgt := 37) dX7_passPlace_20 (by decide) ?_
    exact zv_ireturn dX7_passPlace_37 rfl ⟨rfl, rfl, h, fun _ _ _ => rfl⟩
set_option maxHeartbeats 2000000 in
theorem x_move (h : cP G f nn σ R P ra pa) (hi : iv σ R P N D) {a i b k : Int32} (ha : vp_in a 10) (hb : vp_in b 10) : zc G l yX7_movePlace cX7_movePlace 6 (some .int) 4 [.ref (zg_B G), va_rf (adr ra pa (xT σ a) (xW σ a)), .int i, va_rf (adr ra pa (xT σ b) (xW σ b)), .int k] (f, nn) 0 0 (cN G f nn (s_moS σ a i b k) R P ra pa (some (.int (s_moF σ a i b k)))) := by
  refine zc.ofr (by decide) [(0, .ref (zg_B G)), (1, va_rf (adr ra pa (xT σ a) (xW σ a))), (2, .int i), (3, va_rf (adr ra pa (xT σ b) (xW σ b))), (4, .int k)] (by generalize adr ra pa (xT σ a) (xW σ a) = o; generalize adr ra pa (xT σ b) (xW σ b) = o2; cases o <;> cases o2 <;> rfl) (by generalize adr ra pa (xT σ a) (xW σ a) = o; generalize adr ra pa (xT σ b) (xW σ b) = o2; cases o <;> cases o2 <;> exact Nat.le_of_ble_eq_true rfl) ?_
  have b0 : zg_B G < nn := c_b (x := 0) (by decide) h
  have b3 : zg_B G + 3 < nn := c_b (by decide) h
  obtain ⟨hk, hv, htt, e3⟩ := c_h h
  refine zv_aloadr_n dX7_movePlace_0 rfl ?_
  refine zv_iload_n dX7_movePlace_1 rfl ?_
  refine zv_aload_n dX7_movePlace_2 rfl ?_
  refine zv_get zf_X7_22_5 (c_o h) (Nat.le_refl _) b0 rfl dX7_movePlace_3 ?_
  refine zv_callSq (mc := 0) (ms := 0) zm_X7_72 zkyX7_getPlace (u_get h hi (iv_tw hi ha) e3 (by omega) (by omega)) rfl rfl (Nat.le_of_ble_eq_true rfl) (by decide) dX7_movePlace_6 ?_
  refine zv_istore dX7_movePlace_9 (by decide) ?_
  refine zv_iload dX7_movePlace_11 rfl ?_
  by_cases h0 : s_gF σ (xT σ a) (xW σ a) i = 0
  · rw [if_pos h0]
    have hle : s_gF σ (xT σ a) (xW σ a) i ≤ 0 := (le0_4 (gF_in _ _ _ _)).mpr h0
    have hgS : s_getS σ a i = s_gets σ (xW σ a) i := by unfold s_getS; rw [if_pos h0]
    have hmF : s_moF σ a i b k = s_sFt (s_gets σ (xW σ a) i) (xT σ b) (xW σ b) k := by
      unfold s_moF; rw [if_pos hle, hgS, sFt_eq]
      unfold xT xW; rw [gets_A]
    have hmS : s_moS σ a i b k = if s_sFt (s_gets σ (xW σ a) i) (xT σ b) (xW σ b) k = 0 then sp σ (16 * xW σ b + k).toNatClampNeg (s_setV (s_gets σ (xW σ a) i) (xW σ b)) else σ := by
      have hbk := back_si (s_gets σ (xW σ a) i) σ (gets_A _ _) (fun k h2 h3 h5 => gets_1 _ _ h2 h3 h5)
      have hxw : xW (s_gets σ (xW σ a) i) b = xW σ b := by unfold xW; rw [gets_A]
      have hsf : s_sF (s_gets σ (xW σ a) i) b k = s_sFt (s_gets σ (xW σ a) i) (xT σ b) (xW σ b) k := by rw [sFt_eq]; unfold xT xW; rw [gets_A]
      unfold s_moS; rw [if_pos hle, hgS]; unfold s_setS; rw [hsf]
      by_cases hz : s_sFt (s_gets σ (xW σ a) i) (xT σ b) (xW σ b) k = 0
      · rw [if_pos hz, if_pos hz, back_sp, hxw, hbk]
      · rw [if_neg hz, if_neg hz, hbk]
    refine zv_if_eq (tgt := 21) dX7_movePlace_13 (by decide) (fun _ => ?_) (fun c => absurd h0 c)
    obtain ⟨q, j, s, hq, hs, hj, e3', ew, ei, es⟩ := gF_q hi (iv_tw hi ha) h0
    have hP1 : cP G (va_up f (zg_B G + 3) (hcell ra pa (s_gets σ (xW σ a) i))) nn σ R P ra pa := cP_hand h _ _ _
    have hgv : gv σ.2.2.1 R P ((s_gets σ (xW σ a) i).1 2) ((s_gets σ (xW σ a) i).1 3) (s_gets σ (xW σ a) i).2.1 ((s_gets σ (xW σ a) i).1 5) := by
      rw [ew, ei]; exact (gets_gv hi hq (by omega)).1
    refine zv_aloadr_n dX7_movePlace_21 rfl ?_
    refine zv_iload dX7_movePlace_22 rfl ?_
    refine zv_aload_n dX7_movePlace_24 rfl ?_
    refine zv_get zf_X7_22_5 (c_o hP1) (Nat.le_refl _) b0 rfl dX7_movePlace_25 ?_
    refine zX_callS zm_X7_83 zkyX7_setPlace (u_set hP1 hi (iv_tw hi hb) (gets_A _ _) hgv veq (by omega) (by omega)) rfl rfl (Nat.le_of_ble_eq_true rfl) (by decide) dX7_movePlace_28 (fun f1 h1 k1 => ?_)
    rw [← hmS] at h1
    exact zv_ireturn dX7_movePlace_31 rfl ⟨by rw [hmF], rfl, h1, fun a h2 h3 => (k1 a h2 h3).trans (vne (by omega))⟩
  · rw [if_neg h0]
    have hle : ¬ s_gF σ (xT σ a) (xW σ a) i ≤ 0 := fun z => h0 ((le0_4 (gF_in _ _ _ _)).mp z)
    have hmF : s_moF σ a i b k = s_gF σ (xT σ a) (xW σ a) i := by unfold s_moF; rw [if_neg hle]
    have hmS : s_moS σ a i b k = σ := by
      unfold s_moS s_getS; rw [if_neg hle, if_neg h0]; exact back_si σ σ rfl (fun _ _ _ _ => rfl)
    refine zv_if_eq (tgt := 21) dX7_movePlace_13 (by decide) (fun c => absurd c h0) (fun _ => ?_)
    refine zv_iload dX7_movePlace_16 rfl ?_
    refine zv_goto (tgt := 31) dX7_movePlace_18 (by decide) ?_
    exact zv_ireturn dX7_movePlace_31 rfl ⟨by rw [hmF], rfl, by rw [hmS]; exact h, fun _ _ _ => rfl⟩
theorem nk_g (hi : iv σ R P N D) : (!(s_rng (s_has σ) 0 7)) = decide (σ.1 2 = 1) := by
  rcases hi.2.2.2.2.2.1 with g | ⟨g, ⟨j, hj, ej⟩, -⟩ | ⟨g, -⟩ | ⟨g, -⟩
  · rw [has_0 g, g]; decide +kernel
  · rw [has_1 g, g, ej]
    match j, hj with
    | 0, _ => decide +kernel
    | 1, _ => decide +kernel
    | 2, _ => decide +kernel
    | 3, _ => decide +kernel
    | 4, _ => decide +kernel
    | 5, _ => decide +kernel
    | 6, _ => decide +kernel
    | 7, _ => decide +kernel
  · rw [has_2 g, g]; split <;> decide +kernel
  · rw [has_3 g, g]; decide +kernel
theorem val_1 (h : σ.1 2 = 1) : s_val σ = σ.2.1 := by unfold s_val; rw [if_neg (by rw [h]; decide), if_pos h]
theorem cP_get (h : cP G f nn σ R P ra pa) {t w i : Int32} : cP G (va_up f (zg_B G + 2) (hcell ra pa (s_gets σ w i))) nn (s_gets σ w i) R P ra pa :=
  cP_gauge h (gets_A w i) (gets_1 w i (by decide) (by decide) (by decide)) (gets_1 w i (by decide) (by decide) (by decide)) (gets_1 w i (by decide) (by decide) (by decide)) (gets_1 w i (by decide) (by decide) (by decide))
/-- racks[r] is pushed -/
theorem rk_val (h : cP G f nn σ R P ra pa) {r : Int32} (hr : vp_in r 10) {rg : Nat → Option Nat} (h2 : ∀ r : Nat, r < 10 → rg r = adr ra pa (σ.2.2.1 0 r) (σ.2.2.1 1 r)) : rg r.toNatClampNeg = adr ra pa (xT σ r) (xW σ r) :=
  h2 _ (Nat.not_le.mp fun z => hr (Or.inr z))
set_option maxHeartbeats 4000000 in
theorem x_step (h : cP G f nn σ R P ra pa) (hi : iv σ R P N D) {k0 : Nat} (hk0 : k0 < 12) : zc G l yX7_doStep cX7_doStep 3 (some .int) 5 [.ref (zg_B G), .ref (zg_B G + 5 + k0)] (f, nn) 0 0 (cN G f nn (s_doS σ (σ.2.2.1 13 (5 * k0)) (σ.2.2.1 13 (5 * k0 + 1)) (σ.2.2.1 13 (5 * k0 + 2)) (σ.2.2.1 13 (5 * k0 + 3)) (σ.2.2.1 13 (5 * k0 + 4))) R P ra pa (some (.int (s_doF σ (σ.2.2.1 13 (5 * k0)) (σ.2.2.1 13 (5 * k0 + 1)) (σ.2.2.1 13 (5 * k0 + 2)) (σ.2.2.1 13 (5 * k0 + 3)) (σ.2.2.1 13 (5 * k0 + 4)))))) := by
  refine zc.of (by decide) (Nat.le_of_ble_eq_true rfl) ?_
  obtain ⟨⟨a0, ha0, ea⟩, ⟨bb0, hb0, eb⟩, ⟨j0, hj0, ej⟩⟩ := hi.2.2.2.2.2.2.2 k0 hk0
  obtain ⟨oc, est, -⟩ := c_t h k0 hk0
  obtain ⟨rg, er, er2⟩ := c_r h
  have b0 : zg_B G < nn := c_b (x := 0) (by decide) h
  have b1 : zg_B G + 1 < nn := c_b (by decide) h
  have b2 : zg_B G + 2 < nn := c_b (by decide) h
  have bs : zg_B G + 5 + k0 < nn := by have := c_n h; omega
  have hva : vp_in (nI a0) 10 := vp_in_nI ha0 (by decide)
  have hvb : vp_in (nI bb0) 10 := vp_in_nI hb0 (by decide)
  rw [ea, eb, ej] at est ⊢
  generalize σ.2.2.1 13 (5 * k0) = op at est ⊢
  generalize σ.2.2.1 13 (5 * k0 + 2) = i at est ⊢
  refine zv_aload_n dX7_doStep_0 rfl ?_
  refine zv_get zf_X7_11_5 (c_o h) (Nat.le_refl _) b0 rfl dX7_doStep_1 ?_
  refine zv_aload_n dX7_doStep_4 rfl ?_
  refine zv_get zf_X7_194_3 est (by omega) bs rfl dX7_doStep_5 ?_
  refine zv_aald3 er (by omega) b1 hva dX7_doStep_8 ?_
  rw [rk_val h hva er2]
  refine zv_astorer_n dX7_doStep_9 (by decide) ?_
  refine zv_aload_n dX7_doStep_10 rfl ?_
  refine zv_get zf_X7_197_3 est (by omega) bs rfl dX7_doStep_11 ?_
  by_cases e0 : op = 0
  · subst e0
    refine zv_tableIn (tgt := 48) dX7_doStep_14 (by decide) (by decide) rfl (by decide) ?_
    refine zv_aloadr_n dX7_doStep_48 rfl ?_
    refine zv_aload_n dX7_doStep_49 rfl ?_
    refine zv_get zf_X7_200_3 est (by omega) bs rfl dX7_doStep_50 ?_
    refine zv_aload_n dX7_doStep_53 rfl ?_
    refine zv_get zf_X7_18_5 (c_o h) (Nat.le_refl _) b0 rfl dX7_doStep_54 ?_
    refine zv_callSq (mc := 0) (ms := 0) zm_X7_72 zkyX7_getPlace (u_get h hi (iv_tw hi hva) (c_g h) (by omega) (by omega)) rfl rfl (Nat.le_of_ble_eq_true rfl) (by decide) dX7_doStep_57 ?_
    refine zv_ireturn dX7_doStep_60 rfl ⟨rfl, rfl, ?_, fun a h1 h2 => ?_⟩
    · show cP G (if s_gF σ (xT σ (nI a0)) (xW σ (nI a0)) i = 0 then _ else f) nn (s_getS σ (nI a0) i) R P ra pa
      unfold s_getS
      by_cases hz : s_gF σ (xT σ (nI a0)) (xW σ (nI a0)) i = 0
      · rw [if_pos hz, if_pos hz]; exact cP_get (t := 0) h
      · rw [if_neg hz, if_neg hz]; exact h
    · show (if s_gF σ (xT σ (nI a0)) (xW σ (nI a0)) i = 0 then _ else f) a = f a
      split
      · exact vne (by omega)
      · rfl
  · by_cases e1 : op = 1
    · subst e1
      refine zv_tableIn (tgt := 61) dX7_doStep_14 (by decide) (by decide) rfl (by decide) ?_
      refine zv_aloadr_n dX7_doStep_61 rfl ?_
      refine zv_aload_n dX7_doStep_62 rfl ?_
      refine zv_get zf_X7_200_3 est (by omega) bs rfl dX7_doStep_63 ?_
      refine zv_aload_n dX7_doStep_66 rfl ?_
      refine zv_get zf_X7_18_5 (c_o h) (Nat.le_refl _) b0 rfl dX7_doStep_67 ?_
      refine zX_callS zm_X7_83 zkyX7_setPlace (u_set h hi (iv_tw hi hva) rfl hi.2.2.2.2.2.1 h.2.2.2.1 (by omega) (by omega)) rfl rfl (Nat.le_of_ble_eq_true rfl) (by decide) dX7_doStep_70 (fun f1 h1 k1 => ?_)
      exact zv_ireturn dX7_doStep_73 rfl ⟨rfl, rfl, h1, k1⟩
    · by_cases e2 : op = 2
      · subst e2
        refine zv_tableIn (tgt := 74) dX7_doStep_14 (by decide) (by decide) rfl (by decide) ?_
        refine zv_aloadr_n dX7_doStep_74 rfl ?_
        refine zv_aload_n dX7_doStep_75 rfl ?_
        refine zv_get zf_X7_200_3 est (by omega) bs rfl dX7_doStep_76 ?_
        refine zv_aload_n dX7_doStep_79 rfl ?_
        refine zv_get zf_X7_203_3 est (by omega) bs rfl dX7_doStep_80 ?_
        refine zv_aload_n dX7_doStep_83 rfl ?_
        refine zv_get zf_X7_18_5 (c_o h) (Nat.le_refl _) b0 rfl dX7_doStep_84 ?_
        refine zv_callSq (mc := 0) (ms := 0) zm_X7_86 zkyX7_readPlace (u_read h hi (iv_tw hi hva) hj0 (c_g h) (by omega) (by omega)) rfl rfl (Nat.le_of_ble_eq_true rfl) (by decide) dX7_doStep_87 ?_
        refine zv_ireturn dX7_doStep_90 rfl ⟨rfl, rfl, ?_, fun a h1 h2 => ?_⟩
        · show cP G (if s_rF σ (xT σ (nI a0)) (xW σ (nI a0)) i (nI j0) = 0 then _ else f) nn (s_readS σ (xT σ (nI a0)) (xW σ (nI a0)) i (nI j0)) R P ra pa
          unfold s_readS
          by_cases hz : s_rF σ (xT σ (nI a0)) (xW σ (nI a0)) i (nI j0) = 0
          · rw [if_pos hz, if_pos hz, ← hold_hc ra pa σ]; exact cP_gauge h rfl rfl rfl rfl rfl
          · rw [if_neg hz, if_neg hz]; exact h
        · show (if s_rF σ (xT σ (nI a0)) (xW σ (nI a0)) i (nI j0) = 0 then _ else f) a = f a
          split
          · exact vne (by omega)
          · rfl
      · by_cases e3 : op = 3
        · subst e3
          refine zv_tableIn (tgt := 91) dX7_doStep_14 (by decide) (by decide) rfl (by decide) ?_
          refine zv_aload_n dX7_doStep_91 rfl ?_
          refine zv_get zf_X7_18_5 (c_o h) (Nat.le_refl _) b0 rfl dX7_doStep_92 ?_
          refine zv_get zf_X7_76_0 (c_g h) (by omega) b2 rfl dX7_doStep_95 ?_
          refine zv_callSq (mc := 0) (ms := 0) zm_X7_40 zkyX7_isNumberKind cX_isNK rfl rfl (Nat.le_of_ble_eq_true rfl) (by decide) dX7_doStep_98 ?_
          rw [nk_g hi]
          refine zv_if_ne (tgt := 106) dX7_doStep_101 (by decide) (fun c => ?_) (fun c => ?_)
          · have g1 : σ.1 2 = 1 := by simpa using zb_n.mp c
            refine zv_aloadr_n dX7_doStep_106 rfl ?_
            refine zv_aload_n dX7_doStep_107 rfl ?_
            refine zv_get zf_X7_200_3 est (by omega) bs rfl dX7_doStep_108 ?_
            refine zv_aload_n dX7_doStep_111 rfl ?_
            refine zv_get zf_X7_203_3 est (by omega) bs rfl dX7_doStep_112 ?_
            refine zv_aload_n dX7_doStep_115 rfl ?_
            refine zv_get zf_X7_18_5 (c_o h) (Nat.le_refl _) b0 rfl dX7_doStep_116 ?_
            refine zv_get zf_X7_90_0 (c_g h) (by omega) b2 rfl dX7_doStep_119 ?_
            refine zX_callS zm_X7_94 zkyX7_writePlace (u_write h hi (iv_tw hi hva) hj0) rfl rfl (Nat.le_of_ble_eq_true rfl) (by decide) dX7_doStep_122 (fun f1 h1 k1 => ?_)
            rw [val_1 g1] at h1
            refine zv_ireturn dX7_doStep_125 rfl ⟨?_, rfl, ?_, k1⟩
            · show _ = some (Value.int (if ¬ σ.1 2 = 1 then 0 else _))
              rw [if_neg (fun z => z g1)]
            · show cP G f1 nn (if ¬ σ.1 2 = 1 then σ else _) R P ra pa
              rw [if_neg (fun z => z g1)]; exact h1
          · have g1 : ¬ σ.1 2 = 1 := by simpa using zb_0.mp c
            refine zv_iconstv (v := 0) dX7_doStep_104 (by decide) ?_
            refine zv_ireturn dX7_doStep_105 rfl ⟨?_, rfl, ?_, fun _ _ _ => rfl⟩
            · show _ = some (Value.int (if ¬ σ.1 2 = 1 then 0 else _))
              rw [if_pos g1]
            · show cP G f nn (if ¬ σ.1 2 = 1 then σ else _) R P ra pa
              rw [if_pos g1]; exact h
        · by_cases e4 : op = 4
          · subst e4
            refine zv_tableIn (tgt := 126) dX7_doStep_14 (by decide) (by decide) rfl (by decide) ?_
            refine zv_aload_n dX7_doStep_126 rfl ?_
            refine zv_aloadr_n dX7_doStep_127 rfl ?_
            refine zv_aload_n dX7_doStep_128 rfl ?_
            refine zv_get zf_X7_200_3 est (by omega) bs rfl dX7_doStep_129 ?_
            refine zv_aload_n dX7_doStep_132 rfl ?_
            refine zv_get zf_X7_203_3 est (by omega) bs rfl dX7_doStep_133 ?_
            refine zX_callV h zm_X7_105 zkyX7_readWithin rfl (x_rdW h hi hva) rfl rfl (Nat.le_of_ble_eq_true rfl) (by decide) dX7_doStep_136 (fun f1 h1 k1 => ?_)
            exact zv_ireturn dX7_doStep_139 rfl ⟨rfl, rfl, h1, k1⟩
          · have hout : op.toInt < 0 ∨ 4 < op.toInt := by
              have := lv_neT (a := 0) e0 (by decide); have := lv_neT (a := 1) e1 (by decide); have := lv_neT (a := 2) e2 (by decide); have := lv_neT (a := 3) e3 (by decide); have := lv_neT (a := 4) e4 (by decide)
              omega
            refine zv_tableOut (tgt := 140) dX7_doStep_14 hout (by decide) ?_
            refine zv_aload_n dX7_doStep_140 rfl ?_
            refine zv_aloadr_n dX7_doStep_141 rfl ?_
            refine zv_aload_n dX7_doStep_142 rfl ?_
            refine zv_get zf_X7_200_3 est (by omega) bs rfl dX7_doStep_143 ?_
            refine zv_aload_n dX7_doStep_146 rfl ?_
            refine zv_get zf_X7_11_5 (c_o h) (Nat.le_refl _) b0 rfl dX7_doStep_147 ?_
            refine zv_aload_n dX7_doStep_150 rfl ?_
            refine zv_get zf_X7_206_3 est (by omega) bs rfl dX7_doStep_151 ?_
            refine zv_aald3 er (by omega) b1 hvb dX7_doStep_154 ?_
            rw [rk_val h hvb er2]
            refine zv_aload_n dX7_doStep_155 rfl ?_
            refine zv_get zf_X7_203_3 est (by omega) bs rfl dX7_doStep_156 ?_
            refine zX_callV h zm_X7_209 zkyX7_movePlace rfl (x_move h hi hva hvb) rfl rfl (Nat.le_of_ble_eq_true rfl) (by decide) dX7_doStep_159 (fun f1 h1 k1 => ?_)
            refine zv_ireturn dX7_doStep_162 rfl ⟨?_, rfl, ?_, k1⟩
            · unfold s_doF; rw [if_neg e0, if_neg e1, if_neg e2, if_neg e3, if_neg e4]
            · unfold s_doS; rw [if_neg e0, if_neg e1, if_neg e2, if_neg e3, if_neg e4]; exact h1
end STP
