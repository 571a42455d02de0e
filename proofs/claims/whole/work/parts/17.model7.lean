theorem writeS_a (σ : sg) (t q i of : Int32) (v : Int64) : (s_writeS σ t q i of v).2.2.1 = σ.2.2.1 := by unfold s_writeS; split <;> rfl
theorem writeS_n {σ : sg} {t q i of : Int32} {v : Int64} (h : ¬ s_wF σ t q i of ≤ 0) : s_writeS σ t q i of v = σ := by
  unfold s_writeS; rw [if_neg (fun e => h (by rw [e]; decide))]
theorem rk_cg {σ σ2 : sg} {q : Int32} (hA : σ2.2.2.1 = σ.2.2.1) (h : rk σ q) : rk σ2 q := by
  unfold rk xS at *; rw [hA]; exact h
theorem paF_n {σ : sg} {q t2 q2 k as : Int32} (h : ¬ s_rF σ 3 q k as ≤ 0) : s_paF σ q t2 q2 k as = s_rF σ 3 q k as := if_neg h
theorem paF_y {σ : sg} {q t2 q2 k as : Int32} (h : s_rF σ 3 q k as ≤ 0) : s_paF σ q t2 q2 k as = s_wF σ t2 q2 k as := if_pos h
theorem passL_n {σ : sg} {q t2 q2 as : Int32} {m k : Nat} (h : ¬ s_paF σ q t2 q2 (nI k) as ≤ 0) : s_passL q t2 q2 as (m + 1) k σ = (nI k, s_met1 σ (s_paF σ q t2 q2 (nI k) as)) := if_neg h
theorem out_nI {k S : Nat} (h : k < S) (hS : S ≤ 16) : s_out (nI k) (nI S) = false := by
  unfold s_out
  rw [decide_eq_false_iff_not, show (1 : Int32) = nI 1 from rfl, pk_sub (by omega)]
  rintro (h1 | h1)
  · exact nI_pos (by omega) h1
  · exact nI_nlt (a := S - 1) (b := k) (by omega) (by omega) h1
set_option maxRecDepth 20000 in
set_option maxHeartbeats 1000000 in
theorem cM_pass_l {G : zh_G} {l : Launch} {g : Nat → va_E} {nn : Nat} (hn : zg_B G + 28 ≤ nn) {r to as q t2 q2 : Int32} (hto : vp_in to 10) : ∀ (m k : Nat) (σ : sg) (f : Int32), rk σ q → (t2 = 3 → rk σ q2) → xT σ to = t2 → xW σ to = q2 → xS σ q = nI (k + m) → k + m ≤ 16 → zv G l yX8_pass cX8_pass 7 (some .int) 3 0 0 62 [(6, .int (nI k)), (5, .int q), (4, .int f), (0, .ref (zg_B G + 18)), (1, .int r), (2, .int to), (3, .int as)] [] (ms G g σ, nn) (fun o h' => o = some (.int (s_passL q t2 q2 as m k σ).1) ∧ h' = (ms G g (s_passL q t2 q2 as m k σ).2, nn)) := by
  intro m
  induction m with
  | zero =>
    intro k σ f hq hq2 ht hw hS h16
    refine zv_iload dX8_pass_62 rfl ?_
    refine zv_aload_n dX8_pass_64 rfl ?_
    refine zM_get hn zf_X8_23_6 rfl dX8_pass_65 ?_
    refine zv_iload dX8_pass_68 rfl ?_
    refine zM_ald10 hn (rk_i hq) dX8_pass_70 ?_
    refine zv_icmp_ge (tgt := 152) dX8_pass_71 (by decide) (fun _ => ?_) (fun c => absurd (by rw [show σ.2.2.1 10 q.toNatClampNeg = nI (k + 0) from hS]; exact Int32.le_refl _) c)
    refine zv_aload_n dX8_pass_152 rfl ?_
    refine zM_get hn zf_X8_23_6 rfl dX8_pass_153 ?_
    refine zv_iload dX8_pass_156 rfl ?_
    refine zM_ald10 hn (rk_i hq) dX8_pass_158 ?_
    exact zv_ireturn dX8_pass_159 rfl ⟨by rw [show σ.2.2.1 10 q.toNatClampNeg = nI (k + 0) from hS]; rfl, rfl⟩
  | succ m ih =>
    intro k σ f hq hq2 ht hw hS h16
    subst ht
    subst hw
    have hin16 : vp_in (16 * q + nI k) 80000 := rk_p hq _ (by rw [hS]; exact out_nI (by omega) h16)
    refine zv_iload dX8_pass_62 rfl ?_
    refine zv_aload_n dX8_pass_64 rfl ?_
    refine zM_get hn zf_X8_23_6 rfl dX8_pass_65 ?_
    refine zv_iload dX8_pass_68 rfl ?_
    refine zM_ald10 hn (by first | with_reducible exact hto | with_reducible exact rk_i hq | with_reducible exact hin16) dX8_pass_70 ?_
    refine zv_icmp_ge (tgt := 152) dX8_pass_71 (by decide) (fun c71 => ?_) (fun c71 => ?_)
    · exact absurd c71 (by rw [show σ.2.2.1 10 q.toNatClampNeg = nI (k + (m + 1)) from hS]; exact nI_ge (by omega) (by omega))
    · skip
      refine zv_aload_n dX8_pass_74 rfl ?_
      refine zv_iconstv (v := 3) dX8_pass_75 (by decide) ?_
      refine zv_iload dX8_pass_76 rfl ?_
      refine zv_iload dX8_pass_78 rfl ?_
      refine zv_iload_n dX8_pass_80 rfl ?_
      refine zM_call hn zm_X8_130 zkyX8_readFault rfl (cM_readFault hn (fun _ => hq)) rfl rfl (Nat.le_of_ble_eq_true rfl) (by decide) dX8_pass_81 ?_
      refine zv_istore dX8_pass_84 (by decide) ?_
      refine zv_iload dX8_pass_86 rfl ?_
      refine zv_if_le (tgt := 96) dX8_pass_88 (by decide) (fun c88 => ?_) (fun c88 => ?_)
      · skip
        refine zv_aload_n dX8_pass_96 rfl ?_
        refine zv_aload_n dX8_pass_97 rfl ?_
        refine zM_get hn zf_X8_7_6 rfl dX8_pass_98 ?_
        refine zv_iload_n dX8_pass_101 rfl ?_
        refine zM_ald0 hn (by first | with_reducible exact hto | with_reducible exact rk_i hq | with_reducible exact hin16) dX8_pass_102 ?_
        refine zv_aload_n dX8_pass_103 rfl ?_
        refine zM_get hn zf_X8_13_6 rfl dX8_pass_104 ?_
        refine zv_iload_n dX8_pass_107 rfl ?_
        refine zM_ald1 hn (by first | with_reducible exact hto | with_reducible exact rk_i hq | with_reducible exact hin16) dX8_pass_108 ?_
        refine zv_iload dX8_pass_109 rfl ?_
        refine zv_iload_n dX8_pass_111 rfl ?_
        refine zv_aload_n dX8_pass_112 rfl ?_
        refine zM_get hn zf_X8_27_6 rfl dX8_pass_113 ?_
        refine zv_bipushv (v := 16) dX8_pass_116 (by decide) ?_
        refine zv_iload dX8_pass_118 rfl ?_
        refine zv_imul dX8_pass_120 ?_
        refine zv_iload dX8_pass_121 rfl ?_
        refine zv_iadd dX8_pass_123 ?_
        refine zM_ald11 hn (by first | with_reducible exact hto | with_reducible exact rk_i hq | with_reducible exact hin16) dX8_pass_124 ?_
        refine zM_callg hn zm_X8_140 zkyX8_doWrite rfl (cM_doWrite hn hq2) rfl rfl (Nat.le_of_ble_eq_true rfl) (by decide) dX8_pass_125 (fun σ125 e125 => ?_)
        refine zv_istore dX8_pass_128 (by decide) ?_
        refine zv_iload dX8_pass_130 rfl ?_
        refine zv_if_le (tgt := 146) dX8_pass_132 (by decide) (fun c132 => ?_) (fun c132 => ?_)
        · skip
          refine zv_iinc dX8_pass_146 rfl (by decide) ?_
          refine zv_goto (tgt := 62) dX8_pass_149 (by decide) ?_
          first
          | exact absurd c132 c88
          | skip
            have hA : σ125.2.2.1 = σ.2.2.1 := by rw [e125]; exact writeS_a _ _ _ _ _ _
            have hp : s_paF σ q (xT σ to) (xW σ to) (nI k) as ≤ 0 := by unfold s_paF; rw [if_pos c88]; exact c132
            rw [show s_passL q (xT σ to) (xW σ to) as (m + 1) k σ = s_passL q (xT σ to) (xW σ to) as m (k + 1) σ125 from by rw [e125]; show (if _ then _ else _) = _; rw [if_pos hp]]
            refine zv_lv [(6, .int (nI (k + 1))), (5, .int q), (4, .int (s_wF σ (xT σ to) (xW σ to) (nI k) as)), (0, .ref (zg_B G + 18)), (1, .int r), (2, .int to), (3, .int as)] (by simp [zs1, Value.category, nI_succ]) ?_
            exact ih (k + 1) σ125 _ (rk_cg hA hq) (fun h => rk_cg hA (hq2 h)) (by show σ125.2.2.1 0 _ = _; rw [hA]) (by show σ125.2.2.1 1 _ = _; rw [hA]) (by show σ125.2.2.1 10 _ = _; rw [hA, show k + 1 + m = k + (m + 1) by omega]; exact hS) (by omega)
        · skip
          refine zv_aload_n dX8_pass_135 rfl ?_
          refine zv_iload dX8_pass_136 rfl ?_
          refine zM_call hn zm_X8_50 zkyX8_met1 rfl (cM_met1 hn (by first | with_reducible exact rF_in _ _ _ _ _ | with_reducible exact wF_in _ _ _ _ _)) rfl rfl (Nat.le_of_ble_eq_true rfl) (by decide) dX8_pass_138 ?_
          refine zv_istore dX8_pass_141 (by decide) ?_
          refine zv_iload dX8_pass_143 rfl ?_
          exact zv_ireturn dX8_pass_145 rfl (by first | (rw [passL_n (by rw [paF_n c88]; exact c88), paF_n c88]; exact ⟨rfl, rfl⟩) | (rw [passL_n (by rw [paF_y c88]; exact c132), paF_y c88]; exact ⟨rfl, by rw [e125, writeS_n c132]⟩))
      · skip
        refine zv_iload dX8_pass_91 rfl ?_
        refine zv_goto (tgt := 128) dX8_pass_93 (by decide) ?_
        refine zv_istore dX8_pass_128 (by decide) ?_
        refine zv_iload dX8_pass_130 rfl ?_
        refine zv_if_le (tgt := 146) dX8_pass_132 (by decide) (fun c132 => ?_) (fun c132 => ?_)
        · skip
          refine zv_iinc dX8_pass_146 rfl (by decide) ?_
          refine zv_goto (tgt := 62) dX8_pass_149 (by decide) ?_
          first
          | exact absurd c132 c88
          | skip
            have hA : σ125.2.2.1 = σ.2.2.1 := by rw [e125]; exact writeS_a _ _ _ _ _ _
            have hp : s_paF σ q (xT σ to) (xW σ to) (nI k) as ≤ 0 := by unfold s_paF; rw [if_pos c88]; exact c132
            rw [show s_passL q (xT σ to) (xW σ to) as (m + 1) k σ = s_passL q (xT σ to) (xW σ to) as m (k + 1) σ125 from by rw [e125]; show (if _ then _ else _) = _; rw [if_pos hp]]
            refine zv_lv [(6, .int (nI (k + 1))), (5, .int q), (4, .int (s_wF σ (xT σ to) (xW σ to) (nI k) as)), (0, .ref (zg_B G + 18)), (1, .int r), (2, .int to), (3, .int as)] (by simp [zs1, Value.category, nI_succ]) ?_
            exact ih (k + 1) σ125 _ (rk_cg hA hq) (fun h => rk_cg hA (hq2 h)) (by show σ125.2.2.1 0 _ = _; rw [hA]) (by show σ125.2.2.1 1 _ = _; rw [hA]) (by show σ125.2.2.1 10 _ = _; rw [hA, show k + 1 + m = k + (m + 1) by omega]; exact hS) (by omega)
        · skip
          refine zv_aload_n dX8_pass_135 rfl ?_
          refine zv_iload dX8_pass_136 rfl ?_
          refine zM_call hn zm_X8_50 zkyX8_met1 rfl (cM_met1 hn (by first | with_reducible exact rF_in _ _ _ _ _ | with_reducible exact wF_in _ _ _ _ _)) rfl rfl (Nat.le_of_ble_eq_true rfl) (by decide) dX8_pass_138 ?_
          refine zv_istore dX8_pass_141 (by decide) ?_
          refine zv_iload dX8_pass_143 rfl ?_
          exact zv_ireturn dX8_pass_145 rfl (by first | (rw [passL_n (by rw [paF_n c88]; exact c88), paF_n c88]; exact ⟨rfl, rfl⟩) | (rw [passL_n (by rw [paF_y c88]; exact c132), paF_y c88]; exact ⟨rfl, by rw [e125, writeS_n c132]⟩))
set_option maxRecDepth 20000 in
set_option maxHeartbeats 1000000 in
theorem cM_pass {G : zh_G} {l : Launch} {g : Nat → va_E} {nn : Nat} {σ : sg} (hn : zg_B G + 28 ≤ nn) {r to as : Int32} (ho : okG σ) (hsz : ∀ r, vp_in r 10 → xT σ r = 3 → ∃ S : Nat, S ≤ 16 ∧ xS σ (xW σ r) = nI S) : zc G l yX8_pass cX8_pass 7 (some .int) 3 [.ref (zg_B G + 18), .int r, .int to, .int as] (ms G g σ, nn) 0 0 (fun o h' => o = some (.int (s_pass σ r to as).1) ∧ h' = (ms G g (s_pass σ r to as).2, nn)) := by
  refine zc.of (by decide) (Nat.le_of_ble_eq_true rfl) ?_
  refine zv_iload_n dX8_pass_0 rfl ?_
  refine zv_callSq (mc := 0) (ms := 0) zm_X8_57 zkyX8_no cM_no rfl rfl (Nat.le_of_ble_eq_true rfl) (by decide) dX8_pass_1 ?_
  refine zv_if_ne (tgt := 14) dX8_pass_4 (by decide) (fun c4 => ?_) (fun c4 => ?_)
  · skip
    refine zv_iconstv (v := (-1)) dX8_pass_14 (by decide) ?_
    exact zv_ireturn dX8_pass_15 rfl (by refine ⟨?_, ?_⟩ <;> simp_all [-Int32.not_lt, -Int32.not_le, ← Int32.not_lt, xT, xW, xK, xS, xF, xP, zb_0, zb_n, out_bey, bey_9, bey_10, bey_16, bey_7, bey_4, bey_5, bey_3, bey_m, bey_e, s_pass])
  · skip
    refine zv_iload_n dX8_pass_7 rfl ?_
    refine zv_callSq (mc := 0) (ms := 0) zm_X8_57 zkyX8_no cM_no rfl rfl (Nat.le_of_ble_eq_true rfl) (by decide) dX8_pass_8 ?_
    refine zv_if_eq (tgt := 16) dX8_pass_11 (by decide) (fun c11 => ?_) (fun c11 => ?_)
    · skip
      refine zv_iload_n dX8_pass_16 rfl ?_
      refine zv_i2l dX8_pass_17 ?_
      refine zv_lconstv (v := 0) dX8_pass_18 (by decide) ?_
      refine zv_ldc2 dX8_pass_19 zq_X8_82 ?_
      refine zv_callSq (mc := 0) (ms := 0) zm_X8_42 zkyX8_beyond cM_beyond rfl rfl (Nat.le_of_ble_eq_true rfl) (by decide) dX8_pass_22 ?_
      refine zv_if_eq (tgt := 31) dX8_pass_25 (by decide) (fun c25 => ?_) (fun c25 => ?_)
      · skip
        refine zv_aload_n dX8_pass_31 rfl ?_
        refine zv_iload_n dX8_pass_32 rfl ?_
        refine zM_call hn zm_X8_144 zkyX8_sizeFault rfl (cM_sizeFault hn (no_in (zb_0.mp (by assumption)))) rfl rfl (Nat.le_of_ble_eq_true rfl) (by decide) dX8_pass_33 ?_
        refine zv_istore dX8_pass_36 (by decide) ?_
        refine zv_iload dX8_pass_38 rfl ?_
        refine zv_if_le (tgt := 51) dX8_pass_40 (by decide) (fun c40 => ?_) (fun c40 => ?_)
        · skip
          refine zv_aload_n dX8_pass_51 rfl ?_
          refine zM_get hn zf_X8_13_6 rfl dX8_pass_52 ?_
          refine zv_iload_n dX8_pass_55 rfl ?_
          refine zM_ald1 hn (no_in (zb_0.mp (by assumption))) dX8_pass_56 ?_
          refine zv_istore dX8_pass_57 (by decide) ?_
          refine zv_iconstv (v := 0) dX8_pass_59 (by decide) ?_
          refine zv_istore dX8_pass_60 (by decide) ?_
          have n1 : s_no r = false := zb_0.mp (by assumption)
          have n2 : s_no to = false := zb_0.mp (by assumption)
          have n3 : s_rng as 0 7 = false := by have := zb_0.mp c25; rwa [bey_7] at this
          have h3 : xT σ r = 3 := szF_3 (by assumption)
          obtain ⟨S, hS16, hS⟩ := hsz r (no_in n1) h3
          have e : s_pass σ r to as = s_passL (xW σ r) (xT σ to) (xW σ to) as S 0 σ := by
            unfold s_pass
            rw [if_neg (by rw [n1]; decide), if_neg (by rw [n2]; decide), if_neg (by rw [n3]; decide), if_pos (by assumption), hS, nI_clamp (by omega)]
          rw [e]
          refine zv_lv [(6, .int (nI 0)), (5, .int (xW σ r)), (4, .int (s_szF σ r)), (0, .ref (zg_B G + 18)), (1, .int r), (2, .int to), (3, .int as)] (by simp [zs1, lv_args, Value.category, nI_0]) ?_
          exact cM_pass_l hn (no_in n2) S 0 σ _ (ho.1.1 _ (no_in n1) h3) (ho.1.1 _ (no_in n2)) rfl rfl (by rw [hS, Nat.zero_add]) (by omega)
        · skip
          refine zv_aload_n dX8_pass_43 rfl ?_
          refine zv_iload dX8_pass_44 rfl ?_
          refine zv_iconstv (v := 0) dX8_pass_46 (by decide) ?_
          refine zM_call hn zm_X8_121 zkyX8_answer rfl (cM_answer hn (fun _ => szF_in _ _)) rfl rfl (Nat.le_of_ble_eq_true rfl) (by decide) dX8_pass_47 ?_
          exact zv_ireturn dX8_pass_50 rfl (by refine ⟨?_, ?_⟩ <;> simp_all [-Int32.not_lt, -Int32.not_le, ← Int32.not_lt, xT, xW, xK, xS, xF, xP, zb_0, zb_n, out_bey, bey_9, bey_10, bey_16, bey_7, bey_4, bey_5, bey_3, bey_m, bey_e, s_pass])
      · skip
        refine zv_bipushv (v := (-2)) dX8_pass_28 (by decide) ?_
        exact zv_ireturn dX8_pass_30 rfl (by refine ⟨?_, ?_⟩ <;> simp_all [-Int32.not_lt, -Int32.not_le, ← Int32.not_lt, xT, xW, xK, xS, xF, xP, zb_0, zb_n, out_bey, bey_9, bey_10, bey_16, bey_7, bey_4, bey_5, bey_3, bey_m, bey_e, s_pass])
    · skip
      refine zv_iconstv (v := (-1)) dX8_pass_14 (by decide) ?_
      exact zv_ireturn dX8_pass_15 rfl (by refine ⟨?_, ?_⟩ <;> simp_all [-Int32.not_lt, -Int32.not_le, ← Int32.not_lt, xT, xW, xK, xS, xF, xP, zb_0, zb_n, out_bey, bey_9, bey_10, bey_16, bey_7, bey_4, bey_5, bey_3, bey_m, bey_e, s_pass])
set_option maxRecDepth 20000 in
set_option maxHeartbeats 1000000 in
theorem cM_moves {G : zh_G} {l : Launch} {g : Nat → va_E} {nn : Nat} {σ : sg} (hn : zg_B G + 28 ≤ nn) {a i b k : Int32} (hr : vp_in a 10) (hb : vp_in b 10) (ho : okG σ) : zc G l yX8_moves cX8_moves 11 (some .int) 4 [.ref (zg_B G + 18), .int a, .int i, .int b, .int k] (ms G g σ, nn) 0 0 (fun o h' => o = some (.int (s_moF σ a i b k)) ∧ h' = (ms G g (s_moS σ a i b k), nn)) := by
  refine zc.of (by decide) (Nat.le_of_ble_eq_true rfl) ?_
  refine zv_aload_n dX8_moves_0 rfl ?_
  refine zM_get hn zf_X8_69_6 rfl dX8_moves_1 ?_
  refine zv_istore dX8_moves_4 (by decide) ?_
  refine zv_aload_n dX8_moves_6 rfl ?_
  refine zM_get hn zf_X8_75_6 rfl dX8_moves_7 ?_
  refine zv_istore dX8_moves_10 (by decide) ?_
  refine zv_aload_n dX8_moves_12 rfl ?_
  refine zM_get hn zf_X8_78_6 rfl dX8_moves_13 ?_
  refine zv_lstore dX8_moves_16 (by decide) ?_
  refine zv_aload_n dX8_moves_18 rfl ?_
  refine zM_get hn zf_X8_72_6 rfl dX8_moves_19 ?_
  refine zv_istore dX8_moves_22 (by decide) ?_
  refine zv_aload_n dX8_moves_24 rfl ?_
  refine zv_iload_n dX8_moves_25 rfl ?_
  refine zv_iload_n dX8_moves_26 rfl ?_
  refine zM_callg hn zm_X8_115 zkyX8_doGet rfl (cM_doGet hn hr (ho.1.1 _ hr)) rfl rfl (Nat.le_of_ble_eq_true rfl) (by decide) dX8_moves_27 (fun σ27 e27 => ?_)
  refine zv_istore dX8_moves_30 (by decide) ?_
  refine zv_iload dX8_moves_32 rfl ?_
  refine zv_if_le (tgt := 42) dX8_moves_34 (by decide) (fun c34 => ?_) (fun c34 => ?_)
  · skip
    refine zv_aload_n dX8_moves_42 rfl ?_
    refine zv_iload_n dX8_moves_43 rfl ?_
    refine zv_iload dX8_moves_44 rfl ?_
    refine zM_callg hn zm_X8_127 zkyX8_doSet rfl (cM_doSet hn hb (by subst e27; exact (ho.2.1 _ _ hr).1 _ hb) (by subst e27; exact (ho.2.1 _ _ hr).2.1)) rfl rfl (Nat.le_of_ble_eq_true rfl) (by decide) dX8_moves_46 (fun σ46 e46 => ?_)
    refine zv_istore dX8_moves_49 (by decide) ?_
    refine zv_aload_n dX8_moves_51 rfl ?_
    refine zv_iload dX8_moves_52 rfl ?_
    refine zM_put2 hn zfw_X8_69_6 dX8_moves_54 ?_
    refine zv_aload_n dX8_moves_57 rfl ?_
    refine zv_iload dX8_moves_58 rfl ?_
    refine zM_put3 hn zfw_X8_75_6 dX8_moves_60 ?_
    refine zv_aload_n dX8_moves_63 rfl ?_
    refine zv_lload dX8_moves_64 rfl ?_
    refine zM_put4 hn zfw_X8_78_6 dX8_moves_66 ?_
    refine zv_aload_n dX8_moves_69 rfl ?_
    refine zv_iload dX8_moves_70 rfl ?_
    refine zM_put5 hn zfw_X8_72_6 dX8_moves_72 ?_
    refine zv_iload dX8_moves_75 rfl ?_
    exact zv_ireturn dX8_moves_77 rfl (by first | (unfold s_moF s_moS; rw [if_pos c34, if_pos c34]; subst e27; subst e46; exact ⟨rfl, rfl⟩) | (unfold s_moF s_moS; rw [if_neg c34, if_neg c34]; subst e27; exact ⟨rfl, rfl⟩))
  · skip
    refine zv_iload dX8_moves_37 rfl ?_
    refine zv_goto (tgt := 49) dX8_moves_39 (by decide) ?_
    refine zv_istore dX8_moves_49 (by decide) ?_
    refine zv_aload_n dX8_moves_51 rfl ?_
    refine zv_iload dX8_moves_52 rfl ?_
    refine zM_put2 hn zfw_X8_69_6 dX8_moves_54 ?_
    refine zv_aload_n dX8_moves_57 rfl ?_
    refine zv_iload dX8_moves_58 rfl ?_
    refine zM_put3 hn zfw_X8_75_6 dX8_moves_60 ?_
    refine zv_aload_n dX8_moves_63 rfl ?_
    refine zv_lload dX8_moves_64 rfl ?_
    refine zM_put4 hn zfw_X8_78_6 dX8_moves_66 ?_
    refine zv_aload_n dX8_moves_69 rfl ?_
    refine zv_iload dX8_moves_70 rfl ?_
    refine zM_put5 hn zfw_X8_72_6 dX8_moves_72 ?_
    refine zv_iload dX8_moves_75 rfl ?_
    exact zv_ireturn dX8_moves_77 rfl (by first | (unfold s_moF s_moS; rw [if_pos c34, if_pos c34]; subst e27; subst e46; exact ⟨rfl, rfl⟩) | (unfold s_moF s_moS; rw [if_neg c34, if_neg c34]; subst e27; exact ⟨rfl, rfl⟩))
set_option maxRecDepth 20000 in
set_option maxHeartbeats 1000000 in
theorem cM_does {G : zh_G} {l : Launch} {g : Nat → va_E} {nn : Nat} {σ : sg} (hn : zg_B G + 28 ≤ nn) {p : Int32} (hP : vp_in p 60 ∧ vp_in (p + 1) 60 ∧ vp_in (p + 2) 60 ∧ vp_in (p + 3) 60 ∧ vp_in (p + 4) 60) (ha : vp_in (xO σ (p + 1)) 10) (hb : vp_in (xO σ (p + 3)) 10) (ho : okG σ) : zc G l yX8_does cX8_does 5 (some .int) 5 [.ref (zg_B G + 18), .int p] (ms G g σ, nn) 0 0 (fun o h' => o = some (.int (s_stF σ p)) ∧ h' = (ms G g (s_stS σ p), nn)) := by
  refine zc.of (by decide) (Nat.le_of_ble_eq_true rfl) ?_
  refine zv_aload_n dX8_does_0 rfl ?_
  refine zM_get hn zf_X8_31_6 rfl dX8_does_1 ?_
  refine zv_iload_n dX8_does_4 rfl ?_
  refine zv_iconstv (v := 1) dX8_does_5 (by decide) ?_
  refine zv_iadd dX8_does_6 ?_
  refine zM_ald13 hn (by first | with_reducible exact hP.1 | with_reducible exact hP.2.1 | with_reducible exact hP.2.2.1 | with_reducible exact hP.2.2.2.1 | with_reducible exact hP.2.2.2.2 | exact ha) dX8_does_7 ?_
  refine zv_istore_n dX8_does_8 (by decide) ?_
  refine zv_aload_n dX8_does_9 rfl ?_
  refine zM_get hn zf_X8_31_6 rfl dX8_does_10 ?_
  refine zv_iload_n dX8_does_13 rfl ?_
  refine zv_iconstv (v := 2) dX8_does_14 (by decide) ?_
  refine zv_iadd dX8_does_15 ?_
  refine zM_ald13 hn (by first | with_reducible exact hP.1 | with_reducible exact hP.2.1 | with_reducible exact hP.2.2.1 | with_reducible exact hP.2.2.2.1 | with_reducible exact hP.2.2.2.2 | exact ha) dX8_does_16 ?_
  refine zv_istore_n dX8_does_17 (by decide) ?_
  refine zv_aload_n dX8_does_18 rfl ?_
  refine zM_get hn zf_X8_31_6 rfl dX8_does_19 ?_
  refine zv_iload_n dX8_does_22 rfl ?_
  refine zv_iconstv (v := 4) dX8_does_23 (by decide) ?_
  refine zv_iadd dX8_does_24 ?_
  refine zM_ald13 hn (by first | with_reducible exact hP.1 | with_reducible exact hP.2.1 | with_reducible exact hP.2.2.1 | with_reducible exact hP.2.2.2.1 | with_reducible exact hP.2.2.2.2 | exact ha) dX8_does_25 ?_
  refine zv_istore dX8_does_26 (by decide) ?_
  refine zv_aload_n dX8_does_28 rfl ?_
  refine zM_get hn zf_X8_31_6 rfl dX8_does_29 ?_
  refine zv_iload_n dX8_does_32 rfl ?_
  refine zM_ald13 hn (by first | with_reducible exact hP.1 | with_reducible exact hP.2.1 | with_reducible exact hP.2.2.1 | with_reducible exact hP.2.2.2.1 | with_reducible exact hP.2.2.2.2 | exact ha) dX8_does_33 ?_
  generalize hop : σ.2.2.1 13 p.toNatClampNeg = op
  have hop : xO σ p = op := hop
  by_cases e0 : op = 0
  · subst e0
    refine zv_tableIn (tgt := 68) dX8_does_34 (by decide) (by decide) rfl (by decide) ?_
    refine zv_aload_n dX8_does_68 rfl ?_
    refine zv_iload_n dX8_does_69 rfl ?_
    refine zv_iload_n dX8_does_70 rfl ?_
    refine zM_call hn zm_X8_115 zkyX8_doGet rfl (cM_doGet hn (r := (xO σ (p + 1))) ha (ho.1.1 _ ha)) rfl rfl (Nat.le_of_ble_eq_true rfl) (by decide) dX8_does_71 ?_
    exact zv_ireturn dX8_does_74 rfl (by unfold s_stF s_stS s_doF s_doS; rw [hop]; simp_all [xO])
  by_cases e1 : op = 1
  · subst e1
    refine zv_tableIn (tgt := 75) dX8_does_34 (by decide) (by decide) rfl (by decide) ?_
    refine zv_aload_n dX8_does_75 rfl ?_
    refine zv_iload_n dX8_does_76 rfl ?_
    refine zv_iload_n dX8_does_77 rfl ?_
    refine zM_call hn zm_X8_127 zkyX8_doSet rfl (cM_doSet hn (r := (xO σ (p + 1))) ha (ho.1.1 _ ha) ho.1.2.1) rfl rfl (Nat.le_of_ble_eq_true rfl) (by decide) dX8_does_78 ?_
    exact zv_ireturn dX8_does_81 rfl (by unfold s_stF s_stS s_doF s_doS; rw [hop]; simp_all [xO])
  by_cases e2 : op = 2
  · subst e2
    refine zv_tableIn (tgt := 82) dX8_does_34 (by decide) (by decide) rfl (by decide) ?_
    refine zv_aload_n dX8_does_82 rfl ?_
    refine zv_aload_n dX8_does_83 rfl ?_
    refine zM_get hn zf_X8_7_6 rfl dX8_does_84 ?_
    refine zv_iload_n dX8_does_87 rfl ?_
    refine zM_ald0 hn (by first | with_reducible exact hP.1 | with_reducible exact hP.2.1 | with_reducible exact hP.2.2.1 | with_reducible exact hP.2.2.2.1 | with_reducible exact hP.2.2.2.2 | exact ha) dX8_does_88 ?_
    refine zv_aload_n dX8_does_89 rfl ?_
    refine zM_get hn zf_X8_13_6 rfl dX8_does_90 ?_
    refine zv_iload_n dX8_does_93 rfl ?_
    refine zM_ald1 hn (by first | with_reducible exact hP.1 | with_reducible exact hP.2.1 | with_reducible exact hP.2.2.1 | with_reducible exact hP.2.2.2.1 | with_reducible exact hP.2.2.2.2 | exact ha) dX8_does_94 ?_
    refine zv_iload_n dX8_does_95 rfl ?_
    refine zv_iload dX8_does_96 rfl ?_
    refine zM_call hn zm_X8_134 zkyX8_doRead rfl (cM_doRead hn (ho.1.1 _ ha)) rfl rfl (Nat.le_of_ble_eq_true rfl) (by decide) dX8_does_98 ?_
    exact zv_ireturn dX8_does_101 rfl (by unfold s_stF s_stS s_doF s_doS; rw [hop]; simp_all [xO])
  by_cases e3 : op = 3
  · subst e3
    refine zv_tableIn (tgt := 102) dX8_does_34 (by decide) (by decide) rfl (by decide) ?_
    refine zv_aload_n dX8_does_102 rfl ?_
    refine zM_get hn zf_X8_69_6 rfl dX8_does_103 ?_
    refine zv_iconstv (v := 1) dX8_does_106 (by decide) ?_
    refine zv_icmp_eq (tgt := 114) dX8_does_107 (by decide) (fun c107 => ?_) (fun c107 => ?_)
    · skip
      refine zv_aload_n dX8_does_114 rfl ?_
      refine zv_aload_n dX8_does_115 rfl ?_
      refine zM_get hn zf_X8_7_6 rfl dX8_does_116 ?_
      refine zv_iload_n dX8_does_119 rfl ?_
      refine zM_ald0 hn (by first | with_reducible exact hP.1 | with_reducible exact hP.2.1 | with_reducible exact hP.2.2.1 | with_reducible exact hP.2.2.2.1 | with_reducible exact hP.2.2.2.2 | exact ha) dX8_does_120 ?_
      refine zv_aload_n dX8_does_121 rfl ?_
      refine zM_get hn zf_X8_13_6 rfl dX8_does_122 ?_
      refine zv_iload_n dX8_does_125 rfl ?_
      refine zM_ald1 hn (by first | with_reducible exact hP.1 | with_reducible exact hP.2.1 | with_reducible exact hP.2.2.1 | with_reducible exact hP.2.2.2.1 | with_reducible exact hP.2.2.2.2 | exact ha) dX8_does_126 ?_
      refine zv_iload_n dX8_does_127 rfl ?_
      refine zv_iload dX8_does_128 rfl ?_
      refine zv_aload_n dX8_does_130 rfl ?_
      refine zM_get hn zf_X8_78_6 rfl dX8_does_131 ?_
      refine zM_call hn zm_X8_140 zkyX8_doWrite rfl (cM_doWrite hn (ho.1.1 _ ha)) rfl rfl (Nat.le_of_ble_eq_true rfl) (by decide) dX8_does_134 ?_
      exact zv_ireturn dX8_does_137 rfl (by unfold s_stF s_stS s_doF s_doS; rw [hop]; simp_all [xO])
    · skip
      refine zv_iconstv (v := 0) dX8_does_110 (by decide) ?_
      refine zv_goto (tgt := 137) dX8_does_111 (by decide) ?_
      exact zv_ireturn dX8_does_137 rfl (by unfold s_stF s_stS s_doF s_doS; rw [hop]; simp_all [xO])
  by_cases e4 : op = 4
  · subst e4
    refine zv_tableIn (tgt := 138) dX8_does_34 (by decide) (by decide) rfl (by decide) ?_
    refine zv_aload_n dX8_does_138 rfl ?_
    refine zv_iload_n dX8_does_139 rfl ?_
    refine zv_iload_n dX8_does_140 rfl ?_
    refine zv_iload dX8_does_141 rfl ?_
    refine zM_call hn zm_X8_156 zkyX8_doWithin rfl (cM_doWithin hn (r := (xO σ (p + 1))) ha (ho.1.1 _ ha) (ho.2.2 _ _ ha)) rfl rfl (Nat.le_of_ble_eq_true rfl) (by decide) dX8_does_143 ?_
    exact zv_ireturn dX8_does_146 rfl (by unfold s_stF s_stS s_doF s_doS; rw [hop]; simp_all [xO])
  have hout : op.toInt < 0 ∨ 4 < op.toInt := by
    have := lv_neT (a := 0) e0 (by decide); have := lv_neT (a := 1) e1 (by decide); have := lv_neT (a := 2) e2 (by decide); have := lv_neT (a := 3) e3 (by decide); have := lv_neT (a := 4) e4 (by decide)
    omega
  refine zv_tableOut (tgt := 147) dX8_does_34 hout (by decide) ?_
  refine zv_aload_n dX8_does_147 rfl ?_
  refine zv_iload_n dX8_does_148 rfl ?_
  refine zv_iload_n dX8_does_149 rfl ?_
  refine zv_aload_n dX8_does_150 rfl ?_
  refine zM_get hn zf_X8_31_6 rfl dX8_does_151 ?_
  refine zv_iload_n dX8_does_154 rfl ?_
  refine zv_iconstv (v := 3) dX8_does_155 (by decide) ?_
  refine zv_iadd dX8_does_156 ?_
  refine zM_ald13 hn (by first | with_reducible exact hP.1 | with_reducible exact hP.2.1 | with_reducible exact hP.2.2.1 | with_reducible exact hP.2.2.2.1 | with_reducible exact hP.2.2.2.2 | exact ha) dX8_does_157 ?_
  refine zv_iload dX8_does_158 rfl ?_
  refine zM_call hn zm_X8_173 zkyX8_moves rfl (cM_moves hn (a := (xO σ (p + 1))) (b := xO σ (p + 3)) ha hb ho) rfl rfl (Nat.le_of_ble_eq_true rfl) (by decide) dX8_does_160 ?_
  exact zv_ireturn dX8_does_163 rfl (by unfold s_stF s_stS s_doF s_doS; rw [hop]; simp_all [xO])
