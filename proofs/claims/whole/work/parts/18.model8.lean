def stf (σ : sg) (p : Int32) : Prop := (vp_in p 60 ∧ vp_in (p + 1) 60 ∧ vp_in (p + 2) 60 ∧ vp_in (p + 3) 60 ∧ vp_in (p + 4) 60) ∧ vp_in (xO σ (p + 1)) 10 ∧ vp_in (xO σ (p + 3)) 10
theorem runL_y {stops : Bool} {m : Nat} {good : Int32} {σ : sg} (h : s_stF σ (5 * σ.1 14) ≤ 0) : s_runL stops (m + 1) good σ = s_runL stops m (good + (if s_stF σ (5 * σ.1 14) = 0 then 1 else 0)) (s_r1 σ) := if_pos h
theorem runL_s {m : Nat} {good : Int32} {σ : sg} (h : ¬ s_stF σ (5 * σ.1 14) ≤ 0) : s_runL true (m + 1) good σ = (good + 0, s_met1 (s_r1 σ) (s_stF σ (5 * σ.1 14))) := by
  unfold s_runL; rw [if_neg h]; rfl
theorem runL_g {m : Nat} {good : Int32} {σ : sg} (h : ¬ s_stF σ (5 * σ.1 14) ≤ 0) : s_runL false (m + 1) good σ = s_runL false m (good + 0) (s_met1 (s_r1 σ) (s_stF σ (5 * σ.1 14))) := by
  show (if _ then _ else if false = true then _ else _) = _
  rw [if_neg h]; rfl
set_option maxRecDepth 20000 in
set_option maxHeartbeats 1000000 in
theorem cM_run_l {G : zh_G} {l : Launch} {g : Nat → va_E} {nn : Nat} (hn : zg_B G + 28 ≤ nn) {b : Int32} (I : sg → Prop) (hI : ∀ σ, I σ → okG σ) (hS : ∀ (σ : sg) (D N : Nat), I σ → σ.1 14 = nI D → σ.1 12 = nI N → D < N → N ≤ 12 → stf σ (5 * σ.1 14) ∧ (s_stS σ (5 * σ.1 14)).1 14 = nI D ∧ (s_r1 σ).1 12 = nI N ∧ I (s_r1 σ) ∧ I (s_met1 (s_r1 σ) (s_stF σ (5 * σ.1 14)))) : ∀ (m D : Nat) (good : Int32) (σ : sg), I σ → σ.1 14 = nI D → σ.1 12 = nI (D + m) → D + m ≤ 12 → zv G l yX8_run cX8_run 5 (some .int) 6 0 0 9 [(3, .int 1), (2, .int good), (0, .ref (zg_B G + 18)), (1, .int b)] [] (ms G g σ, nn) (fun o h' => o = some (.int (s_runL (decide (¬ b = 0)) m good σ).1) ∧ h' = (ms G g (s_runL (decide (¬ b = 0)) m good σ).2, nn)) := by
  intro m
  induction m with
  | zero =>
    intro D good σ hi hd hs h12
    refine zv_iload_n dX8_run_9 rfl ?_
    refine zv_if_eq (tgt := 96) dX8_run_10 (by decide) (fun c => absurd c (by decide)) (fun _ => ?_)
    refine zv_aload_n dX8_run_13 rfl ?_
    refine zM_get hn zf_X8_176_6 rfl dX8_run_14 ?_
    refine zv_aload_n dX8_run_17 rfl ?_
    refine zM_get hn zf_X8_170_6 rfl dX8_run_18 ?_
    refine zv_icmp_ge (tgt := 96) dX8_run_21 (by decide) (fun _ => ?_) (fun c => absurd (by rw [hd, hs]; exact Int32.le_refl _) c)
    refine zv_iload_n dX8_run_96 rfl ?_
    exact zv_ireturn dX8_run_97 rfl ⟨rfl, rfl⟩
  | succ m ih =>
    intro D good σ hi hd hs h12
    obtain ⟨⟨f1, f1a, f1b⟩, f2, f3, f4, f5⟩ := hS σ D (D + (m + 1)) hi hd hs (by omega) h12
    have hD12 : vp_in (nI D) 12 := vp_in_nI (by omega) (by decide)
    refine zv_iload_n dX8_run_9 rfl ?_
    refine zv_if_eq (tgt := 96) dX8_run_10 (by decide) (fun c10 => ?_) (fun c10 => ?_)
    · exact absurd c10 (by decide)
    · skip
      refine zv_aload_n dX8_run_13 rfl ?_
      refine zM_get hn zf_X8_176_6 rfl dX8_run_14 ?_
      refine zv_aload_n dX8_run_17 rfl ?_
      refine zM_get hn zf_X8_170_6 rfl dX8_run_18 ?_
      refine zv_icmp_ge (tgt := 96) dX8_run_21 (by decide) (fun c21 => ?_) (fun c21 => ?_)
      · exact absurd c21 (by rw [hd, hs]; exact nI_ge (by omega) (by omega))
      · skip
        refine zv_aload_n dX8_run_24 rfl ?_
        refine zv_iconstv (v := 5) dX8_run_25 (by decide) ?_
        refine zv_aload_n dX8_run_26 rfl ?_
        refine zM_get hn zf_X8_176_6 rfl dX8_run_27 ?_
        refine zv_imul dX8_run_30 ?_
        refine zM_callg hn zm_X8_179 zkyX8_does rfl (cM_does hn f1 f1a f1b (hI σ hi)) rfl rfl (Nat.le_of_ble_eq_true rfl) (by decide) dX8_run_31 (fun σ31 e31 => ?_)
        refine zv_istore dX8_run_34 (by decide) ?_
        refine zv_aload_n dX8_run_36 rfl ?_
        refine zM_get hn zf_X8_34_6 rfl dX8_run_37 ?_
        refine zv_aload_n dX8_run_40 rfl ?_
        refine zM_get hn zf_X8_176_6 rfl dX8_run_41 ?_
        refine zv_iload dX8_run_44 rfl ?_
        refine zM_ast15 hn (by rw [e31, f2]; exact hD12) dX8_run_46 ?_
        refine zv_aload_n dX8_run_47 rfl ?_
        refine zv_dup dX8_run_48 rfl ?_
        refine zM_get hn zf_X8_176_6 rfl dX8_run_49 ?_
        refine zv_iconstv (v := 1) dX8_run_52 (by decide) ?_
        refine zv_iadd dX8_run_53 ?_
        refine zM_put14 hn zfw_X8_176_6 dX8_run_54 ?_
        have hr1 : si (sa σ31 15 (σ31.1 14).toNatClampNeg (s_stF σ (5 * σ.1 14))) 14 ((sa σ31 15 (σ31.1 14).toNatClampNeg (s_stF σ (5 * σ.1 14))).1 14 + 1) = s_r1 σ := by unfold s_r1; rw [e31]; rfl
        refine zM_st hr1 ?_
        have h14 : (s_r1 σ).1 14 = nI (D + 1) := by show (s_stS σ (5 * σ.1 14)).1 14 + 1 = _; rw [f2, nI_succ]
        have h12b : (s_r1 σ).1 12 = nI (D + 1 + m) := by rw [f3, show D + 1 + m = D + (m + 1) by omega]
        refine zv_iload_n dX8_run_57 rfl ?_
        refine zv_iload dX8_run_58 rfl ?_
        refine zv_if_ne (tgt := 67) dX8_run_60 (by decide) (fun c60 => ?_) (fun c60 => ?_)
        · skip
          refine zv_iconstv (v := 0) dX8_run_67 (by decide) ?_
          refine zv_iadd dX8_run_68 ?_
          refine zv_istore_n dX8_run_69 (by decide) ?_
          refine zv_iload dX8_run_70 rfl ?_
          refine zv_if_le (tgt := 93) dX8_run_72 (by decide) (fun c72 => ?_) (fun c72 => ?_)
          · skip
            refine zv_goto (tgt := 9) dX8_run_93 (by decide) ?_
            rw [runL_y c72, if_neg c60]
            refine zv_lv [(3, .int 1), (2, .int (good + 0)), (0, .ref (zg_B G + 18)), (1, .int b)] (by simp [zs1, Value.category, show ((3 : Fin 4) : Nat) = 3 from rfl, show ((2 : Fin 4) : Nat) = 2 from rfl]) ?_
            exact ih (D + 1) _ _ f4 h14 h12b (by omega)
          · skip
            refine zv_aload_n dX8_run_75 rfl ?_
            refine zv_iload dX8_run_76 rfl ?_
            refine zM_call hn zm_X8_50 zkyX8_met1 rfl (cM_met1 hn (doF_in _ _ _ _ _ _)) rfl rfl (Nat.le_of_ble_eq_true rfl) (by decide) dX8_run_78 ?_
            refine zv_istore dX8_run_81 (by decide) ?_
            refine zv_iload_n dX8_run_83 rfl ?_
            refine zv_if_ne (tgt := 91) dX8_run_84 (by decide) (fun c84 => ?_) (fun c84 => ?_)
            · skip
              refine zv_iconstv (v := 0) dX8_run_91 (by decide) ?_
              refine zv_istore_n dX8_run_92 (by decide) ?_
              refine zv_goto (tgt := 9) dX8_run_93 (by decide) ?_
              first
              | exact absurd (by rw [c60]; decide) c72
              | skip
                rw [show (decide (¬ b = 0)) = true from by simp [c84], runL_s c72]
                refine zv_iload_n dX8_run_9 rfl ?_
                refine zv_if_eq (tgt := 96) dX8_run_10 (by decide) (fun _ => ?_) (fun c => absurd rfl c)
                refine zv_iload_n dX8_run_96 rfl ?_
                exact zv_ireturn dX8_run_97 rfl ⟨rfl, rfl⟩
            · skip
              refine zv_iconstv (v := 1) dX8_run_87 (by decide) ?_
              refine zv_goto (tgt := 92) dX8_run_88 (by decide) ?_
              refine zv_istore_n dX8_run_92 (by decide) ?_
              refine zv_goto (tgt := 9) dX8_run_93 (by decide) ?_
              first
              | exact absurd (by rw [c60]; decide) c72
              | skip
                rw [show (decide (¬ b = 0)) = false from by simp [c84]]
                rw [runL_g c72]
                refine zv_lv [(3, .int 1), (2, .int (good + 0)), (0, .ref (zg_B G + 18)), (1, .int b)] (by simp [zs1, Value.category, show ((3 : Fin 4) : Nat) = 3 from rfl, show ((2 : Fin 4) : Nat) = 2 from rfl]) ?_
                have z := ih (D + 1) (good + 0) (s_met1 (s_r1 σ) (s_stF σ (5 * σ.1 14))) f5 h14 h12b (by omega)
                rw [show (decide (¬ b = 0)) = false from by simp [c84]] at z
                exact z
        · skip
          refine zv_iconstv (v := 1) dX8_run_63 (by decide) ?_
          refine zv_goto (tgt := 68) dX8_run_64 (by decide) ?_
          refine zv_iadd dX8_run_68 ?_
          refine zv_istore_n dX8_run_69 (by decide) ?_
          refine zv_iload dX8_run_70 rfl ?_
          refine zv_if_le (tgt := 93) dX8_run_72 (by decide) (fun c72 => ?_) (fun c72 => ?_)
          · skip
            refine zv_goto (tgt := 9) dX8_run_93 (by decide) ?_
            rw [runL_y c72, if_pos c60]
            refine zv_lv [(3, .int 1), (2, .int (good + 1)), (0, .ref (zg_B G + 18)), (1, .int b)] (by simp [zs1, Value.category, show ((3 : Fin 4) : Nat) = 3 from rfl, show ((2 : Fin 4) : Nat) = 2 from rfl]) ?_
            exact ih (D + 1) _ _ f4 h14 h12b (by omega)
          · skip
            refine zv_aload_n dX8_run_75 rfl ?_
            refine zv_iload dX8_run_76 rfl ?_
            refine zM_call hn zm_X8_50 zkyX8_met1 rfl (cM_met1 hn (doF_in _ _ _ _ _ _)) rfl rfl (Nat.le_of_ble_eq_true rfl) (by decide) dX8_run_78 ?_
            refine zv_istore dX8_run_81 (by decide) ?_
            refine zv_iload_n dX8_run_83 rfl ?_
            refine zv_if_ne (tgt := 91) dX8_run_84 (by decide) (fun c84 => ?_) (fun c84 => ?_)
            · skip
              refine zv_iconstv (v := 0) dX8_run_91 (by decide) ?_
              refine zv_istore_n dX8_run_92 (by decide) ?_
              refine zv_goto (tgt := 9) dX8_run_93 (by decide) ?_
              first
              | exact absurd (by rw [c60]; decide) c72
              | skip
                rw [show (decide (¬ b = 0)) = true from by simp [c84], runL_s c72]
                refine zv_iload_n dX8_run_9 rfl ?_
                refine zv_if_eq (tgt := 96) dX8_run_10 (by decide) (fun _ => ?_) (fun c => absurd rfl c)
                refine zv_iload_n dX8_run_96 rfl ?_
                exact zv_ireturn dX8_run_97 rfl ⟨rfl, rfl⟩
            · skip
              refine zv_iconstv (v := 1) dX8_run_87 (by decide) ?_
              refine zv_goto (tgt := 92) dX8_run_88 (by decide) ?_
              refine zv_istore_n dX8_run_92 (by decide) ?_
              refine zv_goto (tgt := 9) dX8_run_93 (by decide) ?_
              first
              | exact absurd (by rw [c60]; decide) c72
              | skip
                rw [show (decide (¬ b = 0)) = false from by simp [c84]]
                rw [runL_g c72]
                refine zv_lv [(3, .int 1), (2, .int (good + 0)), (0, .ref (zg_B G + 18)), (1, .int b)] (by simp [zs1, Value.category, show ((3 : Fin 4) : Nat) = 3 from rfl, show ((2 : Fin 4) : Nat) = 2 from rfl]) ?_
                have z := ih (D + 1) (good + 0) (s_met1 (s_r1 σ) (s_stF σ (5 * σ.1 14))) f5 h14 h12b (by omega)
                rw [show (decide (¬ b = 0)) = false from by simp [c84]] at z
                exact z
set_option maxRecDepth 20000 in
set_option maxHeartbeats 1000000 in
theorem cM_run {G : zh_G} {l : Launch} {g : Nat → va_E} {nn : Nat} {σ : sg} (hn : zg_B G + 28 ≤ nn) {b : Int32} (I : sg → Prop) (hI : ∀ σ, I σ → okG σ) (hS : ∀ (σ : sg) (D N : Nat), I σ → σ.1 14 = nI D → σ.1 12 = nI N → D < N → N ≤ 12 → stf σ (5 * σ.1 14) ∧ (s_stS σ (5 * σ.1 14)).1 14 = nI D ∧ (s_r1 σ).1 12 = nI N ∧ I (s_r1 σ) ∧ I (s_met1 (s_r1 σ) (s_stF σ (5 * σ.1 14)))) {N : Nat} (hi : I (si σ 14 0)) (hs : σ.1 12 = nI N) (h12 : N ≤ 12) : zc G l yX8_run cX8_run 5 (some .int) 6 [.ref (zg_B G + 18), .int b] (ms G g σ, nn) 0 0 (fun o h' => o = some (.int (s_run σ (decide (¬ b = 0))).1) ∧ h' = (ms G g (s_run σ (decide (¬ b = 0))).2, nn)) := by
  refine zc.of (by decide) (Nat.le_of_ble_eq_true rfl) ?_
  refine zv_iconstv (v := 0) dX8_run_0 (by decide) ?_
  refine zv_istore_n dX8_run_1 (by decide) ?_
  refine zv_aload_n dX8_run_2 rfl ?_
  refine zv_iconstv (v := 0) dX8_run_3 (by decide) ?_
  refine zM_put14 hn zfw_X8_176_6 dX8_run_4 ?_
  refine zv_iconstv (v := 1) dX8_run_7 (by decide) ?_
  refine zv_istore_n dX8_run_8 (by decide) ?_
  have e : s_run σ (decide (¬ b = 0)) = s_runL (decide (¬ b = 0)) N 0 (si σ 14 0) := by unfold s_run; rw [hs, nI_clamp (by omega)]
  rw [e]
  refine zv_lv [(3, .int 1), (2, .int 0), (0, .ref (zg_B G + 18)), (1, .int b)] (by simp [zs1, lv_args, Value.category, show ((3 : Fin 4) : Nat) = 3 from rfl, show ((2 : Fin 4) : Nat) = 2 from rfl]) ?_
  exact cM_run_l hn I hI hS N 0 0 _ hi rfl (by rw [Nat.zero_add]; exact hs) (by omega)
def s0 : sg := (fun _ => 0, 0, fun _ _ => 0, fun _ => 0)
set_option maxRecDepth 20000 in
set_option maxHeartbeats 4000000 in
theorem cM_init {G : zh_G} {l : Launch} {f : Nat → va_E} (hf : f (zg_B G + 18) = .inr (6, [.null, .null, .int 0, .int 0, .long 0, .int 0, .int 0, .null, .int 0, .null, .null, .null, .int 0, .null, .int 0, .null, .int 0, .null, .int 0, .int 0])) : zc G l yX8_init cX8_init 1 none 1 [.ref (zg_B G + 18)] (f, zg_B G + 19) 9 90137 (fun o h' => o = none ∧ h' = (ms G f s0, zg_B G + 28)) := by
  refine zc.of (by decide) (Nat.le_of_ble_eq_true rfl) ?_
  refine zv_aload_n dX8_init_0 rfl ?_
  refine zv_objInit zo_X8_1 zo_i zo_c (Nat.le_of_ble_eq_true rfl) (by decide) dX8_init_1 ?_
  refine zv_aload_n dX8_init_4 rfl ?_
  refine zv_bipushv (v := 10) dX8_init_5 (by decide) ?_
  refine zv_newI (N := 10) (mc := 8) (ms := 90127) za_int (by decide) (by decide) (by decide) dX8_init_7 ?_
  refine zv_putF (fs := [.null, .null, .int 0, .int 0, .long 0, .int 0, .int 0, .null, .int 0, .null, .null, .null, .int 0, .null, .int 0, .null, .int 0, .null, .int 0, .int 0]) zfw_X8_7_6 rfl (by simp [va_up, hf]) (by omega) (show zg_B G + 18 < zg_B G + 20 by omega) rfl rfl (by simp) dX8_init_9 ?_
  refine zv_aload_n dX8_init_12 rfl ?_
  refine zv_bipushv (v := 10) dX8_init_13 (by decide) ?_
  refine zv_newI (N := 10) (mc := 7) (ms := 90117) za_int (by decide) (by decide) (by decide) dX8_init_15 ?_
  refine zv_putF (fs := [.ref (zg_B G + 19), .null, .int 0, .int 0, .long 0, .int 0, .int 0, .null, .int 0, .null, .null, .null, .int 0, .null, .int 0, .null, .int 0, .null, .int 0, .int 0]) zfw_X8_13_6 rfl (by simp [va_up, hf]) (by omega) (show zg_B G + 18 < zg_B G + 21 by omega) rfl rfl (by simp) dX8_init_17 ?_
  refine zv_aload_n dX8_init_20 rfl ?_
  refine zv_bipushv (v := 41) dX8_init_21 (by decide) ?_
  refine zv_newZ (N := 41) (mc := 6) (ms := 90076) za_boolean (by decide) (by decide) (by decide) dX8_init_23 ?_
  refine zv_putF (fs := [.ref (zg_B G + 19), .ref (zg_B G + 20), .int 0, .int 0, .long 0, .int 0, .int 0, .null, .int 0, .null, .null, .null, .int 0, .null, .int 0, .null, .int 0, .null, .int 0, .int 0]) zfw_X8_16_6 rfl (by simp [va_up, hf]) (by omega) (show zg_B G + 18 < zg_B G + 22 by omega) rfl rfl (by simp) dX8_init_25 ?_
  refine zv_aload_n dX8_init_28 rfl ?_
  refine zv_sipushv (v := 5000) dX8_init_29 (by decide) ?_
  refine zv_newI (N := 5000) (mc := 5) (ms := 85076) za_int (by decide) (by decide) (by decide) dX8_init_32 ?_
  refine zv_putF (fs := [.ref (zg_B G + 19), .ref (zg_B G + 20), .int 0, .int 0, .long 0, .int 0, .int 0, .ref (zg_B G + 21), .int 0, .null, .null, .null, .int 0, .null, .int 0, .null, .int 0, .null, .int 0, .int 0]) zfw_X8_20_6 rfl (by simp [va_up, hf]) (by omega) (show zg_B G + 18 < zg_B G + 23 by omega) rfl rfl (by simp) dX8_init_34 ?_
  refine zv_aload_n dX8_init_37 rfl ?_
  refine zv_sipushv (v := 5000) dX8_init_38 (by decide) ?_
  refine zv_newI (N := 5000) (mc := 4) (ms := 80076) za_int (by decide) (by decide) (by decide) dX8_init_41 ?_
  refine zv_putF (fs := [.ref (zg_B G + 19), .ref (zg_B G + 20), .int 0, .int 0, .long 0, .int 0, .int 0, .ref (zg_B G + 21), .int 0, .ref (zg_B G + 22), .null, .null, .int 0, .null, .int 0, .null, .int 0, .null, .int 0, .int 0]) zfw_X8_23_6 rfl (by simp [va_up, hf]) (by omega) (show zg_B G + 18 < zg_B G + 24 by omega) rfl rfl (by simp) dX8_init_43 ?_
  refine zv_aload_n dX8_init_46 rfl ?_
  refine zv_ldc dX8_init_47 zq_X8_26 ?_
  refine zv_newJ (N := 80000) (mc := 3) (ms := 76) za_long (by decide) (by decide) (by decide) dX8_init_49 ?_
  refine zv_putF (fs := [.ref (zg_B G + 19), .ref (zg_B G + 20), .int 0, .int 0, .long 0, .int 0, .int 0, .ref (zg_B G + 21), .int 0, .ref (zg_B G + 22), .ref (zg_B G + 23), .null, .int 0, .null, .int 0, .null, .int 0, .null, .int 0, .int 0]) zfw_X8_27_6 rfl (by simp [va_up, hf]) (by omega) (show zg_B G + 18 < zg_B G + 25 by omega) rfl rfl (by simp) dX8_init_51 ?_
  refine zv_aload_n dX8_init_54 rfl ?_
  refine zv_bipushv (v := 60) dX8_init_55 (by decide) ?_
  refine zv_newI (N := 60) (mc := 2) (ms := 16) za_int (by decide) (by decide) (by decide) dX8_init_57 ?_
  refine zv_putF (fs := [.ref (zg_B G + 19), .ref (zg_B G + 20), .int 0, .int 0, .long 0, .int 0, .int 0, .ref (zg_B G + 21), .int 0, .ref (zg_B G + 22), .ref (zg_B G + 23), .ref (zg_B G + 24), .int 0, .null, .int 0, .null, .int 0, .null, .int 0, .int 0]) zfw_X8_31_6 rfl (by simp [va_up, hf]) (by omega) (show zg_B G + 18 < zg_B G + 26 by omega) rfl rfl (by simp) dX8_init_59 ?_
  refine zv_aload_n dX8_init_62 rfl ?_
  refine zv_bipushv (v := 12) dX8_init_63 (by decide) ?_
  refine zv_newI (N := 12) (mc := 1) (ms := 4) za_int (by decide) (by decide) (by decide) dX8_init_65 ?_
  refine zv_putF (fs := [.ref (zg_B G + 19), .ref (zg_B G + 20), .int 0, .int 0, .long 0, .int 0, .int 0, .ref (zg_B G + 21), .int 0, .ref (zg_B G + 22), .ref (zg_B G + 23), .ref (zg_B G + 24), .int 0, .ref (zg_B G + 25), .int 0, .null, .int 0, .null, .int 0, .int 0]) zfw_X8_34_6 rfl (by simp [va_up, hf]) (by omega) (show zg_B G + 18 < zg_B G + 27 by omega) rfl rfl (by simp) dX8_init_67 ?_
  refine zv_aload_n dX8_init_70 rfl ?_
  refine zv_iconstv (v := 4) dX8_init_71 (by decide) ?_
  refine zv_newI (N := 4) (mc := 0) (ms := 0) za_int (by decide) (by decide) (by decide) dX8_init_72 ?_
  refine zv_putF (fs := [.ref (zg_B G + 19), .ref (zg_B G + 20), .int 0, .int 0, .long 0, .int 0, .int 0, .ref (zg_B G + 21), .int 0, .ref (zg_B G + 22), .ref (zg_B G + 23), .ref (zg_B G + 24), .int 0, .ref (zg_B G + 25), .int 0, .ref (zg_B G + 26), .int 0, .null, .int 0, .int 0]) zfw_X8_37_6 rfl (by simp [va_up, hf]) (by omega) (show zg_B G + 18 < zg_B G + 28 by omega) rfl rfl (by simp) dX8_init_74 ?_
  refine zv_return dX8_init_77 rfl ⟨rfl, ?_⟩
  congr 1
  funext a
  unfold ms
  by_cases h18 : a = zg_B G + 18
  · subst h18; simp [va_up, mo, s0]
  by_cases h19 : a = zg_B G + 19
  · subst h19; simp [va_up, mo, s0]
  by_cases h20 : a = zg_B G + 20
  · subst h20; simp [va_up, mo, s0]
  by_cases h21 : a = zg_B G + 21
  · subst h21; simp [va_up, mo, s0]
  by_cases h22 : a = zg_B G + 22
  · subst h22; simp [va_up, mo, s0]
  by_cases h23 : a = zg_B G + 23
  · subst h23; simp [va_up, mo, s0]
  by_cases h24 : a = zg_B G + 24
  · subst h24; simp [va_up, mo, s0]
  by_cases h25 : a = zg_B G + 25
  · subst h25; simp [va_up, mo, s0]
  by_cases h26 : a = zg_B G + 26
  · subst h26; simp [va_up, mo, s0]
  by_cases h27 : a = zg_B G + 27
  · subst h27; simp [va_up, mo, s0]
  simp [va_up, h18, h19, h20, h21, h22, h23, h24, h25, h26, h27]
