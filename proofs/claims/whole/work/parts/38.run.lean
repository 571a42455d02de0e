section PAS
variable {G : zh_G} {l : Launch} {f f2 : Nat → va_E} {nn : Nat} {σ σ2 : sg} {R P N D : Nat} {ra pa : Nat → Nat}
theorem pas_v (σ : sg) (q t2 q2 k as : Int32) : (if s_rF σ 3 q k as = 0 then s_wF σ t2 q2 k as else s_rF σ 3 q k as) = s_paF σ q t2 q2 k as := by
  unfold s_paF
  by_cases hz : s_rF σ 3 q k as = 0
  · rw [if_pos hz, if_pos ((le0_4 (rF_in _ _ _ _ _)).mpr hz)]
  · rw [if_neg hz, if_neg (fun z => hz ((le0_4 (rF_in _ _ _ _ _)).mp z))]
theorem pas_y {q t2 q2 k as : Int32} (h : s_paF σ q t2 q2 k as = 0) : (if s_rF σ 3 q k as = 0 then s_writeS σ t2 q2 k as (xP σ q k) else σ) = s_writeS σ t2 q2 k as (xP σ q k) := by
  unfold s_paF at h
  by_cases hz : s_rF σ 3 q k as = 0
  · rw [if_pos hz]
  · rw [if_neg (fun z => hz ((le0_4 (rF_in _ _ _ _ _)).mp z))] at h; exact absurd h hz
theorem pas_n {q t2 q2 k as : Int32} (h : ¬ s_paF σ q t2 q2 k as = 0) : (if s_rF σ 3 q k as = 0 then s_writeS σ t2 q2 k as (xP σ q k) else σ) = σ := by
  unfold s_paF at h
  by_cases hz : s_rF σ 3 q k as = 0
  · rw [if_pos ((le0_4 (rF_in _ _ _ _ _)).mpr hz)] at h
    rw [if_pos hz]; unfold s_writeS; rw [if_neg h]
  · rw [if_neg hz]
theorem passL_y {q t2 q2 as : Int32} {m k : Nat} (h : s_paF σ q t2 q2 (nI k) as ≤ 0) : s_passL q t2 q2 as (m + 1) k σ = s_passL q t2 q2 as m (k + 1) (s_writeS σ t2 q2 (nI k) as (xP σ q (nI k))) := if_pos h
theorem iv_passL {q t2 q2 as : Int32} (ht : tw R P t2 q2) : ∀ (m k : Nat) (σ : sg), iv σ R P N D → iv (s_passL q t2 q2 as m k σ).2 R P N D := by
  intro m
  induction m with
  | zero => intro k σ hi; exact hi
  | succ m ih =>
    intro k σ hi
    by_cases hz : s_paF σ q t2 q2 (nI k) as ≤ 0
    · rw [passL_y hz]; exact ih _ _ (iv_writeS hi ht _ _ _)
    · rw [passL_n hz]; exact iv_met hi _
set_option maxRecDepth 20000 in
set_option maxHeartbeats 1000000 in
theorem xX_pass_l {f0 : Nat → va_E} {r to : Int32} {b : Nat} (hb : b < 8) (hr : vp_in r 10) (hto : vp_in to 10) {q t2 q2 : Int32} : ∀ (m k : Nat) (σ : sg) (f : Nat → va_E) (fv : Int32), cP G f nn σ R P ra pa → iv σ R P N D → (∀ a : Nat, zg_B G + 18 ≤ a → a < zg_B G + 28 → f a = f0 a) → xT σ r = 3 → xW σ r = q → xT σ to = t2 → xW σ to = q2 → k + m < 100 → zv G l yX7_pass cX7_pass 7 (some .int) 4 0 0 64 [(6, .int (nI k)), (5, .int (nI (k + m))), (4, .int fv), (0, .ref (zg_B G)), (1, .int r), (2, .int to), (3, .int (nI b))] [] (f, nn) (cN G f0 nn (s_passL q t2 q2 (nI b) m k σ).2 R P ra pa (some (.int (s_passL q t2 q2 (nI b) m k σ).1))) := by
  intro m
  induction m with
  | zero =>
    intro k σ f fv h hi hf h1 h2 h3 h4 hk
    refine zv_iload dX7_pass_64 rfl ?_
    refine zv_iload dX7_pass_66 rfl ?_
    refine zv_icmp_ge (tgt := 112) dX7_pass_68 (by decide) (fun _ => ?_) (fun c => absurd (Int32.le_refl _) c)
    refine zv_iload dX7_pass_112 rfl ?_
    exact zv_ireturn dX7_pass_114 rfl ⟨rfl, rfl, h, hf⟩
  | succ m ih =>
    intro k σ f fv h hi hf h1 h2 h3 h4 hk
    obtain ⟨rg, er, er2⟩ := c_r h
    have b0 : zg_B G < nn := c_b (x := 0) (by decide) h
    have b1 : zg_B G + 1 < nn := c_b (by decide) h
    refine zv_iload dX7_pass_64 rfl ?_
    refine zv_iload dX7_pass_66 rfl ?_
    refine zv_icmp_ge (tgt := 112) dX7_pass_68 (by decide) (fun c => absurd c (by rw [nI_leI (by omega) (by omega)]; omega)) (fun _ => ?_)
    refine zv_aload_n dX7_pass_71 rfl ?_
    refine zv_aload_n dX7_pass_72 rfl ?_
    refine zv_get (ci := 5) (fs := cob (zg_B G) σ) zf_X7_11_5 (c_o h) (Nat.le_refl _) b0 rfl dX7_pass_73 ?_
    refine zv_iload_n dX7_pass_76 rfl ?_
    refine zv_aald3 er (by omega) b1 hr dX7_pass_77 ?_
    rw [rk_val h hr er2]
    refine zv_aload_n dX7_pass_78 rfl ?_
    refine zv_get (ci := 5) (fs := cob (zg_B G) σ) zf_X7_11_5 (c_o h) (Nat.le_refl _) b0 rfl dX7_pass_79 ?_
    refine zv_iload_n dX7_pass_82 rfl ?_
    refine zv_aald3 er (by omega) b1 hto dX7_pass_83 ?_
    rw [rk_val h hto er2]
    refine zv_iload dX7_pass_84 rfl ?_
    refine zv_iload_n dX7_pass_86 rfl ?_
    refine zX_callV h zm_X7_113 zkyX7_passPlace rfl (x_pass1 h hi (iv_tw hi hr) (iv_tw hi hto) hb) rfl rfl (Nat.le_of_ble_eq_true rfl) (by decide) dX7_pass_87 (fun f1 g1 k1 => ?_)
    rw [h1, h2, h3, h4] at g1 ⊢
    rw [pas_v]
    refine zv_istore dX7_pass_90 (by decide) ?_
    refine zv_iload dX7_pass_92 rfl ?_
    have hf1 : ∀ a : Nat, zg_B G + 18 ≤ a → a < zg_B G + 28 → f1 a = f0 a := fun a x y => (k1 a x y).trans (hf a x y)
    refine zv_if_eq (tgt := 106) dX7_pass_94 (by decide) (fun c94 => ?_) (fun c94 => ?_)
    · have c94 : s_paF σ q t2 q2 (nI k) (nI b) = 0 := c94
      rw [pas_y c94] at g1
      rw [passL_y ((le0_4 (paF_in _ _ _ _ _ _)).mpr c94)]
      refine zv_iinc dX7_pass_106 rfl (by decide) ?_
      refine zv_goto (tgt := 64) dX7_pass_109 (by decide) ?_
      refine zv_lv [(6, .int (nI (k + 1))), (5, .int (nI (k + 1 + m))), (4, .int (s_paF σ q t2 q2 (nI k) (nI b))), (0, .ref (zg_B G)), (1, .int r), (2, .int to), (3, .int (nI b))] (by simp [zs1, Value.category, nI_succ, show k + 1 + m = k + (m + 1) by omega]) ?_
      have hiw : iv (s_writeS σ t2 q2 (nI k) (nI b) (xP σ q (nI k))) R P N D := iv_writeS hi (by have z := iv_tw hi hto; rw [h3, h4] at z; exact z) _ _ _
      exact ih (k + 1) _ f1 _ g1 hiw hf1 (by show (s_writeS _ _ _ _ _ _).2.2.1 0 _ = _; rw [writeS_a]; exact h1) (by show (s_writeS _ _ _ _ _ _).2.2.1 1 _ = _; rw [writeS_a]; exact h2) (by show (s_writeS _ _ _ _ _ _).2.2.1 0 _ = _; rw [writeS_a]; exact h3) (by show (s_writeS _ _ _ _ _ _).2.2.1 1 _ = _; rw [writeS_a]; exact h4) (by omega)
    · have c94 : ¬ s_paF σ q t2 q2 (nI k) (nI b) = 0 := c94
      rw [pas_n c94] at g1
      rw [passL_n (fun z => c94 ((le0_4 (paF_in _ _ _ _ _ _)).mp z))]
      refine zv_aload_n dX7_pass_97 rfl ?_
      refine zv_iload dX7_pass_98 rfl ?_
      refine zX_callV g1 zm_X7_117 zkyX7_countFault rfl (x_count g1 (paF_in _ _ _ _ _ _)) rfl rfl (Nat.le_of_ble_eq_true rfl) (by decide) dX7_pass_100 (fun f3 g3 k3 => ?_)
      refine zv_iload dX7_pass_103 rfl ?_
      exact zv_ireturn dX7_pass_105 rfl ⟨rfl, rfl, g3, fun a x y => (k3 a x y).trans (hf1 a x y)⟩
end PAS
set_option maxRecDepth 20000 in
set_option maxHeartbeats 1000000 in
theorem xX_pass {G : zh_G} {l : Launch} {f : Nat → va_E} {nn : Nat} {σ : sg} {R P N D : Nat} {ra pa : Nat → Nat} (h : cP G f nn σ R P ra pa) (hi : iv σ R P N D) {r to as : Int32} : zc G l yX7_pass cX7_pass 7 (some .int) 4 [.ref (zg_B G), .int r, .int to, .int as] (f, nn) 0 0 (cN G f nn (s_pass σ r to as).2 R P ra pa (some (.int (s_pass σ r to as).1))) := by
  refine zc.of (by decide) (Nat.le_of_ble_eq_true rfl) ?_
  obtain ⟨rg, er, er2⟩ := c_r h
  have b0 : zg_B G < nn := c_b (x := 0) (by decide) h
  have b1 : zg_B G + 1 < nn := c_b (by decide) h
  have b2 : zg_B G + 2 < nn := c_b (by decide) h
  have b4 : zg_B G + 4 < nn := c_b (by decide) h
  have b17 : zg_B G + 17 < nn := c_b (by decide) h
  refine zv_iload_n dX7_pass_0 rfl ?_
  refine zv_callSq (mc := 0) (ms := 0) zm_X7_36 zkyX7_isRack cX_isRack rfl rfl (Nat.le_of_ble_eq_true rfl) (by decide) dX7_pass_1 ?_
  refine zv_if_eq (tgt := 14) dX7_pass_4 (by decide) (fun c4 => ?_) (fun c4 => ?_)
  · skip
    have hs : s_no r = true := by simpa using zb_0.mp c4
    refine zv_iconstv (v := (-1)) dX7_pass_14 (by decide) ?_
    exact zv_ireturn dX7_pass_15 rfl (by first | exact ⟨by simp [s_pass, hs], rfl, by simp [s_pass, hs]; exact h, fun _ _ _ => rfl⟩ | exact ⟨by simp [s_pass, hs, hs2], rfl, by simp [s_pass, hs, hs2]; exact h, fun _ _ _ => rfl⟩)
  · skip
    have hs : s_no r = false := by simpa using zb_n.mp c4
    have hr : vp_in r 10 := no_in hs
    refine zv_iload_n dX7_pass_7 rfl ?_
    refine zv_callSq (mc := 0) (ms := 0) zm_X7_36 zkyX7_isRack cX_isRack rfl rfl (Nat.le_of_ble_eq_true rfl) (by decide) dX7_pass_8 ?_
    refine zv_if_ne (tgt := 16) dX7_pass_11 (by decide) (fun c11 => ?_) (fun c11 => ?_)
    · skip
      have hs2 : s_no to = false := by simpa using zb_n.mp c11
      have hr2 : vp_in to 10 := no_in hs2
      refine zv_iload_n dX7_pass_16 rfl ?_
      refine zv_callSq (mc := 0) (ms := 0) zm_X7_40 zkyX7_isNumberKind cX_isNK rfl rfl (Nat.le_of_ble_eq_true rfl) (by decide) dX7_pass_17 ?_
      refine zv_if_ne (tgt := 26) dX7_pass_20 (by decide) (fun c20 => ?_) (fun c20 => ?_)
      · skip
        have hs3 : s_rng as 0 7 = false := by simpa using zb_n.mp c20
        obtain ⟨b, hb, rfl⟩ := rng7 hs3
        refine zv_aload_n dX7_pass_26 rfl ?_
        refine zv_get (ci := 5) (fs := cob (zg_B G) σ) zf_X7_11_5 (c_o h) (Nat.le_refl _) b0 rfl dX7_pass_27 ?_
        refine zv_iload_n dX7_pass_30 rfl ?_
        refine zv_aald3 er (by omega) b1 hr dX7_pass_31 ?_
        rw [rk_val h hr er2]
        refine zv_callSq (mc := 0) (ms := 0) zm_X7_98 zkyX7_rowFault (u_rowF h hi (iv_tw hi hr)) rfl rfl (Nat.le_of_ble_eq_true rfl) (by decide) dX7_pass_32 ?_
        rw [szF_eq]
        refine zv_istore dX7_pass_35 (by decide) ?_
        refine zv_iload dX7_pass_37 rfl ?_
        refine zv_if_eq (tgt := 50) dX7_pass_39 (by decide) (fun c39 => ?_) (fun c39 => ?_)
        · have e3 : xT σ r = 3 := szF_3 (by rw [c39]; decide)
          obtain ⟨q, hq, ew⟩ : ∃ q : Nat, q < R ∧ xW σ r = nI q := by rcases iv_tw hi hr with e | ⟨e, -⟩ | ⟨e, z⟩; (rw [e] at e3; exact absurd e3 (by decide)); (rw [e] at e3; exact absurd e3 (by decide)); exact z
          have hR := hi.1.2
          obtain ⟨-, ⟨s, hs16, es⟩, -⟩ := hi.2.2.2.2.2.2.1 q hq
          have eS : xS σ (xW σ r) = nI s := by rw [ew, xs (by omega)]; exact es
          have esp : s_pass σ r to (nI b) = s_passL (xW σ r) (xT σ to) (xW σ to) (nI b) s 0 σ := by simp only [s_pass, hs, hs2, hs3, Bool.false_eq_true, if_false]; rw [if_pos (by rw [c39]; decide), eS, nI_clamp (by omega)]
          rw [esp]
          refine zv_aload_n dX7_pass_50 rfl ?_
          refine zv_get (ci := 5) (fs := cob (zg_B G) σ) zf_X7_11_5 (c_o h) (Nat.le_refl _) b0 rfl dX7_pass_51 ?_
          refine zv_iload_n dX7_pass_54 rfl ?_
          refine zv_aald3 er (by omega) b1 hr dX7_pass_55 ?_
          rw [rk_val h hr er2]
          refine zv_callSq (mc := 0) (ms := 0) zm_X7_102 zkyX7_placesOf (u_plc h hi (iv_tw hi hr)) rfl rfl (Nat.le_of_ble_eq_true rfl) (by decide) dX7_pass_56 ?_
          rw [if_pos e3, eS]
          refine zv_istore dX7_pass_59 (by decide) ?_
          refine zv_iconstv (v := 0) dX7_pass_61 (by decide) ?_
          refine zv_istore dX7_pass_62 (by decide) ?_
          refine zv_lv [(6, .int (nI 0)), (5, .int (nI (0 + s))), (4, .int (s_szF σ r)), (0, .ref (zg_B G)), (1, .int r), (2, .int to), (3, .int (nI b))] (by simp [zs1, lv_args, Value.category, nI_0]) ?_
          exact xX_pass_l hb hr hr2 s 0 σ f _ h hi (fun _ _ _ => rfl) e3 rfl rfl rfl (by omega)
        · have hnz : ¬ s_szF σ r ≤ 0 := fun z => c39 ((le0_4 (szF_in σ r)).mp z)
          have esp : s_pass σ r to (nI b) = (s_ans (s_szF σ r) 0, s_ansS σ (s_szF σ r)) := by simp only [s_pass, hs, hs2, hs3, Bool.false_eq_true, if_false]; rw [if_neg hnz]
          rw [esp]
          refine zv_aload_n dX7_pass_42 rfl ?_
          refine zv_iload dX7_pass_43 rfl ?_
          refine zv_iconstv (v := 0) dX7_pass_45 (by decide) ?_
          refine zX_callV h zm_X7_79 zkyX7_answer rfl (x_ans h (szF_in _ _)) rfl rfl (Nat.le_of_ble_eq_true rfl) (by decide) dX7_pass_46 (fun f3 h3 k3 => ?_)
          exact zv_ireturn dX7_pass_49 rfl ⟨rfl, rfl, h3, k3⟩
      · skip
        have hs3 : s_rng as 0 7 = true := by simpa using zb_0.mp c20
        refine zv_bipushv (v := (-2)) dX7_pass_23 (by decide) ?_
        exact zv_ireturn dX7_pass_25 rfl ⟨by simp [s_pass, hs, hs2, hs3], rfl, by simp [s_pass, hs, hs2, hs3]; exact h, fun _ _ _ => rfl⟩
    · skip
      have hs2 : s_no to = true := by simpa using zb_0.mp c11
      refine zv_iconstv (v := (-1)) dX7_pass_14 (by decide) ?_
      exact zv_ireturn dX7_pass_15 rfl (by first | exact ⟨by simp [s_pass, hs], rfl, by simp [s_pass, hs]; exact h, fun _ _ _ => rfl⟩ | exact ⟨by simp [s_pass, hs, hs2], rfl, by simp [s_pass, hs, hs2]; exact h, fun _ _ _ => rfl⟩)
theorem iv_pass {σ : sg} {R P N D : Nat} (hi : iv σ R P N D) (r to as : Int32) : iv (s_pass σ r to as).2 R P N D := by
  unfold s_pass
  by_cases h1 : s_no r = true
  · rw [if_pos h1]; exact hi
  · rw [if_neg h1]
    by_cases h2 : s_no to = true
    · rw [if_pos h2]; exact hi
    · rw [if_neg h2]
      by_cases h3 : s_rng as 0 7 = true
      · rw [if_pos h3]; exact hi
      · rw [if_neg h3]
        by_cases h4 : s_szF σ r ≤ 0
        · rw [if_pos h4]; exact iv_passL (iv_tw hi (no_in (by simpa using h2))) _ _ _ hi
        · rw [if_neg h4]; exact iv_ansS hi _
section RUN
variable {G : zh_G} {l : Launch} {f f2 : Nat → va_E} {nn : Nat} {σ σ2 : sg} {R P N D : Nat} {ra pa : Nat → Nat}
/-- the steps' outcomes forgotten up to k -/
def fgt (G : zh_G) (f0 f : Nat → va_E) (σ : sg) (k : Nat) : Prop := (∀ a : Nat, (a < zg_B G + 5 ∨ zg_B G + 17 ≤ a) → f a = f0 a) ∧ ∀ j : Nat, j < 12 → ∃ oc : Int32, f (zg_B G + 5 + j) = .inr (3, [.int (σ.2.2.1 13 (5 * j)), .int (σ.2.2.1 13 (5 * j + 1)), .int (σ.2.2.1 13 (5 * j + 2)), .int (σ.2.2.1 13 (5 * j + 3)), .int (σ.2.2.1 13 (5 * j + 4)), .int oc]) ∧ (j < k → oc = -9)
theorem fgt_put {f0 : Nat → va_E} {k : Nat} (hk : k < 12) (h : fgt G f0 f σ k) : fgt G f0 (va_up f (zg_B G + 5 + k) (.inr (3, [.int (σ.2.2.1 13 (5 * k)), .int (σ.2.2.1 13 (5 * k + 1)), .int (σ.2.2.1 13 (5 * k + 2)), .int (σ.2.2.1 13 (5 * k + 3)), .int (σ.2.2.1 13 (5 * k + 4)), .int (-9)]))) σ (k + 1) := by
  refine ⟨fun a ha => (vne (by omega)).trans (h.1 a ha), fun j hj => ?_⟩
  by_cases hjk : j = k
  · subst hjk; exact ⟨-9, veq, fun _ => rfl⟩
  · obtain ⟨oc, x, y⟩ := h.2 j hj
    exact ⟨oc, (vne (by omega)).trans x, fun z => y (by omega)⟩
theorem fgt_end {f0 : Nat → va_E} (h : cP G f0 nn σ R P ra pa) (hi : iv σ R P N D) (hf : fgt G f0 f σ N) : cP G f nn (si σ 14 0) R P ra pa := by
  have hN := hi.2.2.1
  refine cP_gen h (by have z := c_o h; exact (hf.1 _ (by omega)).trans z) ?_ ((hf.1 _ (by omega)).trans h.2.2.2.1) ?_ (hf.1 _ (by omega)) (fun j hj => ?_) (by have z := c_f h; exact (hf.1 _ (by omega)).trans z) (fun a ha => hf.1 a (by omega)) rfl rfl rfl rfl
  · obtain ⟨rg, x, y⟩ := c_r h
    exact ⟨rg, (hf.1 _ (by omega)).trans x, y⟩
  · obtain ⟨x, y, z, e⟩ := c_h h
    exact ⟨x, y, z, (hf.1 _ (by omega)).trans e⟩
  · obtain ⟨oc, x, y⟩ := hf.2 j hj
    refine ⟨oc, x, fun hlt => ?_⟩
    have hlt : nI j < σ.1 12 := hlt
    rw [hN.1, nI_ltI (by omega) (by omega)] at hlt
    show oc = if nI j < (0 : Int32) then _ else -9
    rw [if_neg (nI_pos (by omega))]; exact y hlt
set_option maxRecDepth 20000 in
set_option maxHeartbeats 1000000 in
theorem x_forget_l {f0 : Nat → va_E} (h : cP G f0 nn σ R P ra pa) (hi : iv σ R P N D) : ∀ (m k : Nat) (f : Nat → va_E), k + m = N → fgt G f0 f σ k → zv G l yX7_forgetRun cX7_forgetRun 2 none 0 0 0 2 [(1, .int (nI k)), (0, .ref (zg_B G))] [] (f, nn) (cN G f0 nn (si σ 14 0) R P ra pa none) := by
  have hN := hi.2.2.1
  have hn := h.1
  intro m
  induction m with
  | zero =>
    intro k f hk hf
    refine zv_iload_n dX7_forgetRun_2 rfl ?_
    refine zv_aload_n dX7_forgetRun_3 rfl ?_
    refine zv_get (ci := 5) (fs := cob (zg_B G) σ) zf_X7_131_5 ((hf.1 _ (by omega)).trans (c_o h)) (Nat.le_refl _) (by show zg_B G < nn; omega) rfl dX7_forgetRun_4 ?_
    rw [hN.1, show k = N by omega]
    refine zv_icmp_ge (tgt := 27) dX7_forgetRun_7 (by decide) (fun _ => ?_) (fun c => absurd (Int32.le_refl _) c)
    refine zv_return dX7_forgetRun_27 rfl ⟨rfl, rfl, fgt_end h hi (by rw [show k = N by omega] at hf; exact hf), fun a x y => hf.1 a (by omega)⟩
  | succ m ih =>
    intro k f hk hf
    refine zv_iload_n dX7_forgetRun_2 rfl ?_
    refine zv_aload_n dX7_forgetRun_3 rfl ?_
    refine zv_get (ci := 5) (fs := cob (zg_B G) σ) zf_X7_131_5 ((hf.1 _ (by omega)).trans (c_o h)) (Nat.le_refl _) (by show zg_B G < nn; omega) rfl dX7_forgetRun_4 ?_
    rw [hN.1]
    refine zv_icmp_ge (tgt := 27) dX7_forgetRun_7 (by decide) (fun c => absurd c (by rw [nI_leI (by omega) (by omega)]; omega)) (fun _ => ?_)
    refine zv_aload_n dX7_forgetRun_10 rfl ?_
    refine zv_get (ci := 5) (fs := cob (zg_B G) σ) zf_X7_27_5 ((hf.1 _ (by omega)).trans (c_o h)) (Nat.le_refl _) (by show zg_B G < nn; omega) rfl dX7_forgetRun_11 ?_
    refine zv_iload_n dX7_forgetRun_14 rfl ?_
    refine zv_aald4 ((hf.1 _ (by omega)).trans (c_s h)) (by omega) (by show zg_B G + 4 < nn; omega) (vp_in_nI (by omega) (by decide)) dX7_forgetRun_15 ?_
    rw [nI_clamp (by omega), if_pos (by omega)]
    refine zv_bipushv (v := (-9)) dX7_forgetRun_16 (by decide) ?_
    obtain ⟨oc, x, y⟩ := hf.2 k (by omega)
    refine zv_put (fs := [.int (σ.2.2.1 13 (5 * k)), .int (σ.2.2.1 13 (5 * k + 1)), .int (σ.2.2.1 13 (5 * k + 2)), .int (σ.2.2.1 13 (5 * k + 3)), .int (σ.2.2.1 13 (5 * k + 4)), .int oc]) zfw_X7_145_3 x (by omega) (by show zg_B G + 5 + k < nn; omega) rfl rfl (by simp) dX7_forgetRun_18 ?_
    refine zv_iinc dX7_forgetRun_21 rfl (by decide) ?_
    refine zv_goto (tgt := 2) dX7_forgetRun_24 (by decide) ?_
    refine zv_lv [(1, .int (nI (k + 1))), (0, .ref (zg_B G))] (by simp [zs1, Value.category, nI_succ]) ?_
    exact ih (k + 1) _ (by omega) (fgt_put (by omega) hf)
theorem x_forget (h : cP G f nn σ R P ra pa) (hi : iv σ R P N D) : zc G l yX7_forgetRun cX7_forgetRun 2 none 0 [.ref (zg_B G)] (f, nn) 0 0 (cN G f nn (si σ 14 0) R P ra pa none) := by
  refine zc.of (by decide) (Nat.le_of_ble_eq_true rfl) ?_
  refine zv_iconstv (v := 0) dX7_forgetRun_0 (by decide) ?_
  refine zv_istore_n dX7_forgetRun_1 (by decide) ?_
  refine zv_lv [(1, .int (nI 0)), (0, .ref (zg_B G))] (by simp [zs1, lv_args, Value.category, nI_0, show ((1 : Fin 4) : Nat) = 1 from rfl]) ?_
  exact x_forget_l h hi N 0 f (by omega) ⟨fun _ _ => rfl, fun j hj => (c_t h j hj).imp (fun oc z => ⟨z.1, fun w => absurd w (by omega)⟩)⟩
theorem st_eq (e : σ.1 14 = nI D) (hD : D < 12) : s_stF σ (5 * σ.1 14) = s_doF σ (σ.2.2.1 13 (5 * D)) (σ.2.2.1 13 (5 * D + 1)) (σ.2.2.1 13 (5 * D + 2)) (σ.2.2.1 13 (5 * D + 3)) (σ.2.2.1 13 (5 * D + 4)) ∧ s_stS σ (5 * σ.1 14) = s_doS σ (σ.2.2.1 13 (5 * D)) (σ.2.2.1 13 (5 * D + 1)) (σ.2.2.1 13 (5 * D + 2)) (σ.2.2.1 13 (5 * D + 3)) (σ.2.2.1 13 (5 * D + 4)) := by
  unfold s_stF s_stS xO
  rw [e, five, nI_1, show (2 : Int32) = nI 2 from rfl, show (3 : Int32) = nI 3 from rfl, show (4 : Int32) = nI 4 from rfl, nI_add, nI_add, nI_add, nI_clamp (by omega), nI_clamp (by omega), nI_clamp (by omega), nI_clamp (by omega), nI_clamp (by omega)]
  exact ⟨rfl, rfl⟩
def s_rr (σ : sg) (D : Nat) (ft : Int32) : sg := si (sa σ 15 D ft) 14 (nI (D + 1))
theorem iv_st (hi : iv σ R P N D) (hD : D < N) : iv (s_stS σ (5 * σ.1 14)) R P N D := by
  have hN := hi.2.2.1.2
  rw [(st_eq hi.2.2.2.1.1 (by omega)).2]
  obtain ⟨⟨a, ha, ea⟩, ⟨b, hb, eb⟩, ⟨j, hj, ej⟩⟩ := hi.2.2.2.2.2.2.2 D (by omega)
  exact iv_doS hi (by rw [ea]; exact vp_in_nI ha (by decide)) (by rw [eb]; exact vp_in_nI hb (by decide)) hj ej
theorem r1_eq (hi : iv σ R P N D) (hD : D < N) : s_r1 σ = s_rr (s_stS σ (5 * σ.1 14)) D (s_stF σ (5 * σ.1 14)) := by
  have hN := hi.2.2.1.2
  unfold s_r1 s_rr
  rw [(iv_st hi hD).2.2.2.1.1, nI_clamp (by omega), nI_1]
theorem iv_rr (hi : iv σ R P N D) (hD : D < N) (ft : Int32) : iv (s_rr σ D ft) R P N (D + 1) :=
  iv_ag (σ2 := s_rr σ D ft) (D2 := D + 1) hi rfl rfl rfl rfl rfl rfl rfl rfl rfl rfl rfl (by omega) rfl rfl rfl rfl
theorem rr_f (σ : sg) (D : Nat) (ft : Int32) : (s_rr σ D ft).1 12 = σ.1 12 ∧ (s_rr σ D ft).1 14 = nI (D + 1) ∧ (s_rr σ D ft).2.2.1 13 = σ.2.2.1 13 ∧ ∀ j : Nat, (s_rr σ D ft).2.2.1 15 j = if j = D then ft else σ.2.2.1 15 j := ⟨rfl, rfl, rfl, fun _ => rfl⟩
theorem iv_r1 (hi : iv σ R P N D) (hD : D < N) : iv (s_r1 σ) R P N (D + 1) := by
  rw [r1_eq hi hD]; exact iv_rr (iv_st hi hD) hD _
theorem iv_runL (stops : Bool) : ∀ (m D : Nat) (good : Int32) (σ : sg), iv σ R P N D → D + m ≤ N → ∃ D2 : Nat, iv (s_runL stops m good σ).2 R P N D2 := by
  intro m
  induction m with
  | zero => intro D good σ hi _; exact ⟨D, hi⟩
  | succ m ih =>
    intro D good σ hi hm
    have h1 := iv_r1 hi (by omega)
    by_cases hz : s_stF σ (5 * σ.1 14) ≤ 0
    · rw [runL_y hz]; exact ih _ _ _ h1 (by omega)
    · cases stops with
      | true => rw [runL_s hz]; exact ⟨_, iv_met h1 _⟩
      | false => rw [runL_g hz]; exact ih _ _ _ (iv_met h1 _) (by omega)
theorem iv_run (hi : iv σ R P N D) (stops : Bool) : ∃ D2 : Nat, iv (s_run σ stops).2 R P N D2 := by
  have hN := hi.2.2.1
  unfold s_run
  rw [hN.1, nI_clamp (by omega)]
  exact iv_runL stops N 0 0 _ (iv_ag (σ2 := si σ 14 0) (D2 := 0) hi rfl rfl rfl rfl rfl rfl rfl rfl rfl rfl rfl (by omega) rfl rfl rfl rfl) (by omega)
theorem cP_rr (h : cP G f nn σ R P ra pa) (hi : iv σ R P N D) (hD : D < N) (ft : Int32) : cP G (va_up f (zg_B G + 5 + D) (.inr (3, [.int (σ.2.2.1 13 (5 * D)), .int (σ.2.2.1 13 (5 * D + 1)), .int (σ.2.2.1 13 (5 * D + 2)), .int (σ.2.2.1 13 (5 * D + 3)), .int (σ.2.2.1 13 (5 * D + 4)), .int ft]))) nn (s_rr σ D ft) R P ra pa := by
  have hN := hi.2.2.1
  obtain ⟨q12, q14, q13, q15⟩ := rr_f σ D ft
  refine cP_gen h (by have z := c_o h; exact (vne (by omega)).trans z) ?_ ((vne (by omega)).trans h.2.2.2.1) ?_ (vne (by omega)) (fun j hj => ?_) (by have z := c_f h; exact (vne (by omega)).trans z) (fun a ha => vne (by omega)) rfl rfl rfl rfl
  · obtain ⟨rg, x, y⟩ := c_r h
    exact ⟨rg, (vne (by omega)).trans x, y⟩
  · obtain ⟨x, y, z, e⟩ := c_h h
    exact ⟨x, y, z, (vne (by omega)).trans e⟩
  · unfold stpp
    rw [q12, q14, q13, q15]
    by_cases hjD : j = D
    · subst hjD
      refine ⟨ft, veq, fun _ => ?_⟩
      rw [if_pos (by rw [nI_ltI (by omega) (by omega)]; omega), if_pos rfl]
    · obtain ⟨oc, x, y⟩ := c_t h j hj
      refine ⟨oc, (vne (by omega)).trans x, fun hlt => ?_⟩
      rw [y hlt, hi.2.2.2.1.1, if_neg hjD]
      by_cases hlt2 : j < D
      · rw [if_pos (by rw [nI_ltI (by omega) (by omega)]; omega), if_pos (by rw [nI_ltI (by omega) (by omega)]; omega)]
      · rw [if_neg (by rw [nI_ltI (by omega) (by omega)]; omega), if_neg (by rw [nI_ltI (by omega) (by omega)]; omega)]
set_option maxRecDepth 20000 in
set_option maxHeartbeats 1000000 in
theorem xX_run_l {f0 : Nat → va_E} {b : Int32} : ∀ (m D : Nat) (good : Int32) (σ : sg) (f : Nat → va_E), cP G f nn σ R P ra pa → iv σ R P N D → (∀ a : Nat, zg_B G + 18 ≤ a → a < zg_B G + 28 → f a = f0 a) → D + m = N → zv G l yX7_run cX7_run 5 (some .int) 6 0 0 8 [(3, .int (nI D)), (2, .int good), (0, .ref (zg_B G)), (1, .int b)] [] (f, nn) (cN G f0 nn (s_runL (decide (¬ b = 0)) m good σ).2 R P ra pa (some (.int (s_runL (decide (¬ b = 0)) m good σ).1))) := by
  intro m
  induction m with
  | zero =>
    intro D good σ f h hi hf hm
    have hN := hi.2.2.1
    have b0 : zg_B G < nn := c_b (x := 0) (by decide) h
    refine zv_iload_n dX7_run_8 rfl ?_
    refine zv_aload_n dX7_run_9 rfl ?_
    refine zv_get (ci := 5) (fs := cob (zg_B G) σ) zf_X7_131_5 (c_o h) (Nat.le_refl _) b0 rfl dX7_run_10 ?_
    rw [hN.1, show D = N by omega]
    refine zv_icmp_ge (tgt := 68) dX7_run_13 (by decide) (fun _ => ?_) (fun c => absurd (Int32.le_refl _) c)
    refine zv_iload_n dX7_run_68 rfl ?_
    exact zv_ireturn dX7_run_69 rfl ⟨rfl, rfl, h, hf⟩
  | succ m ih =>
    intro D good σ f h hi hf hm
    have hN := hi.2.2.1
    have hDN : D < N := by omega
    have hn := h.1
    have b0 : zg_B G < nn := c_b (x := 0) (by decide) h
    have b4 : zg_B G + 4 < nn := c_b (by decide) h
    obtain ⟨eF, eS⟩ := st_eq (σ := σ) (D := D) hi.2.2.2.1.1 (by omega)
    have hi1 := iv_st hi hDN
    refine zv_iload_n dX7_run_8 rfl ?_
    refine zv_aload_n dX7_run_9 rfl ?_
    refine zv_get (ci := 5) (fs := cob (zg_B G) σ) zf_X7_131_5 (c_o h) (Nat.le_refl _) b0 rfl dX7_run_10 ?_
    rw [hN.1]
    refine zv_icmp_ge (tgt := 68) dX7_run_13 (by decide) (fun c => absurd c (by rw [nI_leI (by omega) (by omega)]; omega)) (fun _ => ?_)
    refine zv_aload_n dX7_run_16 rfl ?_
    refine zv_aload_n dX7_run_17 rfl ?_
    refine zv_get (ci := 5) (fs := cob (zg_B G) σ) zf_X7_27_5 (c_o h) (Nat.le_refl _) b0 rfl dX7_run_18 ?_
    refine zv_iload_n dX7_run_21 rfl ?_
    refine zv_aald4 (c_s h) (by omega) b4 (vp_in_nI (by omega) (by decide)) dX7_run_22 ?_
    rw [nI_clamp (by omega), if_pos (by omega)]
    refine zX_callV h zm_X7_141 zkyX7_doStep rfl (x_step h hi (by omega)) rfl rfl (Nat.le_of_ble_eq_true rfl) (by decide) dX7_run_23 (fun f1 g1 k1 => ?_)
    have hf1 : ∀ a : Nat, zg_B G + 18 ≤ a → a < zg_B G + 28 → f1 a = f0 a := fun a x y => (k1 a x y).trans (hf a x y)
    rw [← eF]
    rw [← eS] at g1
    have er1 := r1_eq hi hDN
    have hFin : vp_in (s_stF σ (5 * σ.1 14)) 4 := doF_in _ _ _ _ _ _
    generalize hft : s_stF σ (5 * σ.1 14) = ft at *
    refine zv_istore dX7_run_26 (by decide) ?_
    refine zv_aload_n dX7_run_28 rfl ?_
    refine zv_get (ci := 5) (fs := cob (zg_B G) (s_stS σ (5 * σ.1 14))) zf_X7_27_5 (c_o g1) (Nat.le_refl _) b0 rfl dX7_run_29 ?_
    refine zv_iload_n dX7_run_32 rfl ?_
    refine zv_aald4 (c_s g1) (by omega) b4 (vp_in_nI (by omega) (by decide)) dX7_run_33 ?_
    rw [nI_clamp (by omega), if_pos (by omega)]
    refine zv_iload dX7_run_34 rfl ?_
    obtain ⟨oc, x, y⟩ := c_t g1 D (by omega)
    have g2 := cP_rr g1 hi1 hDN ft
    rw [← er1] at g2
    have hi2 := iv_r1 hi hDN
    refine zv_put (fs := [.int ((s_stS σ (5 * σ.1 14)).2.2.1 13 (5 * D)), .int ((s_stS σ (5 * σ.1 14)).2.2.1 13 (5 * D + 1)), .int ((s_stS σ (5 * σ.1 14)).2.2.1 13 (5 * D + 2)), .int ((s_stS σ (5 * σ.1 14)).2.2.1 13 (5 * D + 3)), .int ((s_stS σ (5 * σ.1 14)).2.2.1 13 (5 * D + 4)), .int oc]) zfw_X7_145_3 x (by omega) (by show zg_B G + 5 + D < nn; omega) rfl rfl (by simp) dX7_run_36 ?_
    have hf2 : ∀ a : Nat, zg_B G + 18 ≤ a → a < zg_B G + 28 → va_up f1 (zg_B G + 5 + D) (.inr (3, [.int ((s_stS σ (5 * σ.1 14)).2.2.1 13 (5 * D)), .int ((s_stS σ (5 * σ.1 14)).2.2.1 13 (5 * D + 1)), .int ((s_stS σ (5 * σ.1 14)).2.2.1 13 (5 * D + 2)), .int ((s_stS σ (5 * σ.1 14)).2.2.1 13 (5 * D + 3)), .int ((s_stS σ (5 * σ.1 14)).2.2.1 13 (5 * D + 4)), .int ft])) a = f0 a := fun a x y => (vne (by omega)).trans (hf1 a x y)
    refine zv_iload dX7_run_39 rfl ?_
    refine zv_if_ne (tgt := 50) dX7_run_41 (by decide) (fun c41 => ?_) (fun c41 => ?_)
    · have hle : ¬ s_stF σ (5 * σ.1 14) ≤ 0 := by rw [hft]; exact fun z => c41 ((le0_4 hFin).mp z)
      refine zv_aload_n dX7_run_50 rfl ?_
      refine zv_iload dX7_run_51 rfl ?_
      refine zX_callV g2 zm_X7_117 zkyX7_countFault rfl (x_count g2 hFin) rfl rfl (Nat.le_of_ble_eq_true rfl) (by decide) dX7_run_53 (fun f3 g3 k3 => ?_)
      have hf3 : ∀ a : Nat, zg_B G + 18 ≤ a → a < zg_B G + 28 → f3 a = f0 a := fun a x y => (k3 a x y).trans (hf2 a x y)
      refine zv_iload_n dX7_run_56 rfl ?_
      refine zv_if_eq (tgt := 62) dX7_run_57 (by decide) (fun c57 => ?_) (fun c57 => ?_)
      · rw [show decide (¬ b = 0) = false from decide_eq_false (fun z => z c57), runL_g hle, hft]
        refine zv_iinc dX7_run_62 rfl (by decide) ?_
        refine zv_goto (tgt := 8) dX7_run_65 (by decide) ?_
        refine zv_lv [(3, .int (nI (D + 1))), (2, .int (good + 0)), (0, .ref (zg_B G)), (1, .int b)] (by simp [zs1, Value.category, nI_succ, show ((3 : Fin 4) : Nat) = 3 from rfl]) ?_
        have z := ih (D + 1) (good + 0) _ f3 g3 (iv_met hi2 ft) hf3 (by omega)
        rw [show decide (¬ b = 0) = false from decide_eq_false (fun z => z c57)] at z
        exact z
      · rw [show decide (¬ b = 0) = true from decide_eq_true c57, runL_s hle, hft]
        refine zv_iload_n dX7_run_60 rfl ?_
        exact zv_ireturn dX7_run_61 rfl ⟨by simp, rfl, g3, hf3⟩
    · have hle : s_stF σ (5 * σ.1 14) ≤ 0 := by rw [hft]; exact (le0_4 hFin).mpr c41
      rw [runL_y hle, if_pos (by rw [hft]; exact c41)]
      refine zv_iinc dX7_run_44 rfl (by decide) ?_
      refine zv_goto (tgt := 62) dX7_run_47 (by decide) ?_
      refine zv_iinc dX7_run_62 rfl (by decide) ?_
      refine zv_goto (tgt := 8) dX7_run_65 (by decide) ?_
      refine zv_lv [(3, .int (nI (D + 1))), (2, .int (good + 1)), (0, .ref (zg_B G)), (1, .int b)] (by simp [zs1, Value.category, nI_succ, show ((3 : Fin 4) : Nat) = 3 from rfl, show ((2 : Fin 4) : Nat) = 2 from rfl]) ?_
      exact ih (D + 1) (good + 1) _ _ g2 hi2 hf2 (by omega)
theorem xX_run (h : cP G f nn σ R P ra pa) (hi : iv σ R P N D) {b : Int32} : zc G l yX7_run cX7_run 5 (some .int) 6 [.ref (zg_B G), .int b] (f, nn) 0 0 (cN G f nn (s_run σ (decide (¬ b = 0))).2 R P ra pa (some (.int (s_run σ (decide (¬ b = 0))).1))) := by
  have hN := hi.2.2.1
  refine zc.of (by decide) (Nat.le_of_ble_eq_true rfl) ?_
  refine zv_aload_n dX7_run_0 rfl ?_
  refine zX_callV h zm_X7_138 zkyX7_forgetRun rfl (x_forget h hi) rfl rfl (Nat.le_of_ble_eq_true rfl) (by decide) dX7_run_1 (fun f1 g1 k1 => ?_)
  refine zv_iconstv (v := 0) dX7_run_4 (by decide) ?_
  refine zv_istore_n dX7_run_5 (by decide) ?_
  refine zv_iconstv (v := 0) dX7_run_6 (by decide) ?_
  refine zv_istore_n dX7_run_7 (by decide) ?_
  refine zv_lv [(3, .int (nI 0)), (2, .int 0), (0, .ref (zg_B G)), (1, .int b)] (by simp [zs1, lv_args, Value.category, nI_0, show ((3 : Fin 4) : Nat) = 3 from rfl, show ((2 : Fin 4) : Nat) = 2 from rfl]) ?_
  have z := xX_run_l (l := l) (b := b) N 0 0 (si σ 14 0) f1 g1 (iv_ag (σ2 := si σ 14 0) (D2 := 0) hi rfl rfl rfl rfl rfl rfl rfl rfl rfl rfl rfl (by omega) rfl rfl rfl rfl) k1 (by omega)
  unfold s_run
  rw [hN.1, nI_clamp (by omega)]
  exact z
end RUN
