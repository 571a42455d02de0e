theorem gF_out {σ : sg} {t q i : Int32} (h : s_gF σ t q i = 0) : t = 3 ∧ s_out i (xS σ q) = false := by
  unfold s_gF at h
  by_cases h1 : t = 0
  · rw [if_pos h1] at h; exact absurd h (by decide)
  · rw [if_neg h1] at h
    by_cases h2 : t = 3
    · rw [if_neg (fun q => q h2)] at h
      by_cases h3 : s_out i (xS σ q) = true
      · rw [if_pos h3] at h; exact absurd h (by decide)
      · exact ⟨h2, by simpa using h3⟩
    · rw [if_pos h2] at h; exact absurd h (by decide)
theorem rF_out {σ : sg} {t q i to : Int32} (h : s_rF σ t q i to = 0) : t = 3 ∧ xK σ q < 8 ∧ s_out i (xS σ q) = false ∧ s_goes (xK σ q) to = true := by
  unfold s_rF at h
  by_cases h1 : t = 0
  · rw [if_pos h1] at h; exact absurd h (by decide)
  · rw [if_neg h1] at h
    by_cases h2 : t = 3
    · rw [if_neg (fun q => q h2)] at h
      by_cases h4 : xK σ q < 8
      · rw [if_neg (fun q => q h4)] at h
        by_cases h3 : s_out i (xS σ q) = true
        · rw [if_pos h3] at h; exact absurd h (by decide)
        · rw [if_neg h3] at h
          by_cases h5 : s_goes (xK σ q) to = true
          · exact ⟨h2, h4, by simpa using h3, h5⟩
          · rw [if_neg h5] at h; exact absurd h (by decide)
      · rw [if_pos h4] at h; exact absurd h (by decide)
    · rw [if_pos h2] at h; exact absurd h (by decide)
theorem wF_out {σ : sg} {t q i to : Int32} (h : s_wF σ t q i to = 0) : t = 3 ∧ xK σ q < 8 ∧ s_out i (xS σ q) = false ∧ s_goes to (xK σ q) = true := by
  unfold s_wF at h
  by_cases h1 : t = 0
  · rw [if_pos h1] at h; exact absurd h (by decide)
  · rw [if_neg h1] at h
    by_cases h2 : t = 3
    · rw [if_neg (fun q => q h2)] at h
      by_cases h4 : xK σ q < 8
      · rw [if_neg (fun q => q h4)] at h
        by_cases h3 : s_out i (xS σ q) = true
        · rw [if_pos h3] at h; exact absurd h (by decide)
        · rw [if_neg h3] at h
          by_cases h5 : s_goes to (xK σ q) = true
          · exact ⟨h2, h4, by simpa using h3, h5⟩
          · rw [if_neg h5] at h; exact absurd h (by decide)
      · rw [if_pos h4] at h; exact absurd h (by decide)
    · rw [if_pos h2] at h; exact absurd h (by decide)
theorem sF_out {σ : sg} {r i : Int32} (h : s_sF σ r i = 0) : xT σ r = 3 ∧ s_out i (xS σ (xW σ r)) = false ∧ ¬ (xK σ (xW σ r) < 8 ∧ σ.1 2 = 0) ∧ s_unfit σ (xW σ r) = false := by
  unfold s_sF at h
  by_cases h2 : xT σ r = 3
  · rw [if_neg (fun q => q h2)] at h
    by_cases h4 : xK σ (xW σ r) < 8 ∧ σ.1 2 = 0
    · rw [if_pos h4] at h; exact absurd h (by decide)
    · rw [if_neg h4] at h
      by_cases h3 : s_out i (xS σ (xW σ r)) = true
      · rw [if_pos h3] at h; exact absurd h (by decide)
      · rw [if_neg h3] at h
        by_cases h5 : s_unfit σ (xW σ r) = true
        · rw [if_pos h5] at h; exact absurd h (by decide)
        · exact ⟨h2, by simpa using h3, h4, by simpa using h5⟩
  · rw [if_pos h2] at h
    by_cases h1 : xT σ r = 0
    · rw [if_pos h1] at h; exact absurd h (by decide)
    · rw [if_neg h1] at h; exact absurd h (by decide)
theorem szF_3 {σ : sg} {r : Int32} (h : s_szF σ r ≤ 0) : xT σ r = 3 := by
  unfold s_szF at h
  by_cases h1 : xT σ r = 0
  · rw [if_pos h1] at h; exact absurd h (by decide)
  · rw [if_neg h1] at h
    by_cases h2 : xT σ r = 3
    · exact h2
    · rw [if_pos h2] at h; exact absurd h (by decide)
set_option maxRecDepth 20000 in
set_option maxHeartbeats 1000000 in
theorem cM_doGet {G : zh_G} {l : Launch} {g : Nat → va_E} {nn : Nat} {σ : sg} (hn : zg_B G + 28 ≤ nn) {r i : Int32} (hr : vp_in r 10) (hq : xT σ r = 3 → rk σ (xW σ r)) : zc G l yX8_doGet cX8_doGet 4 (some .int) 2 [.ref (zg_B G + 18), .int r, .int i] (ms G g σ, nn) 0 0 (fun o h' => o = some (.int (s_gF σ (xT σ r) (xW σ r) i)) ∧ h' = (ms G g (s_getS σ r i), nn)) := by
  refine zc.of (by decide) (Nat.le_of_ble_eq_true rfl) ?_
  refine zv_aload_n dX8_doGet_0 rfl ?_
  refine zv_aload_n dX8_doGet_1 rfl ?_
  refine zM_get hn zf_X8_7_6 rfl dX8_doGet_2 ?_
  refine zv_iload_n dX8_doGet_5 rfl ?_
  refine zM_ald0 hn (by first | with_reducible assumption | with_reducible exact hr | with_reducible exact rk_i (hq (by assumption)) | with_reducible exact rk_i (hq (by simp_all)) | with_reducible exact rk_p (hq (by simp_all)) _ (by simp_all)) dX8_doGet_6 ?_
  refine zv_aload_n dX8_doGet_7 rfl ?_
  refine zM_get hn zf_X8_13_6 rfl dX8_doGet_8 ?_
  refine zv_iload_n dX8_doGet_11 rfl ?_
  refine zM_ald1 hn (by first | with_reducible assumption | with_reducible exact hr | with_reducible exact rk_i (hq (by assumption)) | with_reducible exact rk_i (hq (by simp_all)) | with_reducible exact rk_p (hq (by simp_all)) _ (by simp_all)) dX8_doGet_12 ?_
  refine zv_iload_n dX8_doGet_13 rfl ?_
  refine zM_call hn zm_X8_107 zkyX8_getFault rfl (cM_getFault hn hq) rfl rfl (Nat.le_of_ble_eq_true rfl) (by decide) dX8_doGet_14 ?_
  refine zv_istore_n dX8_doGet_17 (by decide) ?_
  refine zv_iload_n dX8_doGet_18 rfl ?_
  refine zv_if_ne (tgt := 33) dX8_doGet_19 (by decide) (fun c19 => ?_) (fun c19 => ?_)
  · skip
    refine zv_iload_n dX8_doGet_33 rfl ?_
    exact zv_ireturn dX8_doGet_34 rfl (by refine ⟨?_, ?_⟩ <;> simp_all [-Int32.not_lt, -Int32.not_le, ← Int32.not_lt, xT, xW, xK, xS, xF, xP, zb_0, zb_n, out_bey, s_getS])
  · skip
    refine zv_aload_n dX8_doGet_22 rfl ?_
    refine zv_aload_n dX8_doGet_23 rfl ?_
    refine zM_get hn zf_X8_13_6 rfl dX8_doGet_24 ?_
    refine zv_iload_n dX8_doGet_27 rfl ?_
    refine zM_ald1 hn (by first | with_reducible assumption | with_reducible exact hr | with_reducible exact rk_i (hq (by assumption)) | with_reducible exact rk_i (hq (by simp_all)) | with_reducible exact rk_p (hq (by simp_all)) _ (by simp_all)) dX8_doGet_28 ?_
    refine zv_iload_n dX8_doGet_29 rfl ?_
    refine zM_call hn zm_X8_111 zkyX8_gets rfl (cM_gets hn (hq (gF_out (by assumption)).1) (gF_out (by assumption)).2) rfl rfl (Nat.le_of_ble_eq_true rfl) (by decide) dX8_doGet_30 ?_
    refine zv_iload_n dX8_doGet_33 rfl ?_
    exact zv_ireturn dX8_doGet_34 rfl (by refine ⟨?_, ?_⟩ <;> simp_all [-Int32.not_lt, -Int32.not_le, ← Int32.not_lt, xT, xW, xK, xS, xF, xP, zb_0, zb_n, out_bey, s_getS])
set_option maxRecDepth 20000 in
set_option maxHeartbeats 1000000 in
theorem cM_doSet {G : zh_G} {l : Launch} {g : Nat → va_E} {nn : Nat} {σ : sg} (hn : zg_B G + 28 ≤ nn) {r i : Int32} (hr : vp_in r 10) (hq : xT σ r = 3 → rk σ (xW σ r)) (hw : σ.1 2 = 2 → vp_in (σ.1 5) 41) : zc G l yX8_doSet cX8_doSet 5 (some .int) 3 [.ref (zg_B G + 18), .int r, .int i] (ms G g σ, nn) 0 0 (fun o h' => o = some (.int (s_sF σ r i)) ∧ h' = (ms G g (s_setS σ r i), nn)) := by
  refine zc.of (by decide) (Nat.le_of_ble_eq_true rfl) ?_
  refine zv_aload_n dX8_doSet_0 rfl ?_
  refine zv_iload_n dX8_doSet_1 rfl ?_
  refine zv_iload_n dX8_doSet_2 rfl ?_
  refine zM_call hn zm_X8_124 zkyX8_setFault rfl (cM_setFault hn hr hq hw) rfl rfl (Nat.le_of_ble_eq_true rfl) (by decide) dX8_doSet_3 ?_
  refine zv_istore_n dX8_doSet_6 (by decide) ?_
  refine zv_iload_n dX8_doSet_7 rfl ?_
  refine zv_if_ne (tgt := 90) dX8_doSet_8 (by decide) (fun c8 => ?_) (fun c8 => ?_)
  · skip
    refine zv_iload_n dX8_doSet_90 rfl ?_
    exact zv_ireturn dX8_doSet_91 rfl (by refine ⟨?_, ?_⟩ <;> simp_all [-Int32.not_lt, -Int32.not_le, ← Int32.not_lt, xT, xW, xK, xS, xF, xP, zb_0, zb_n, out_bey, s_setS, s_setV])
  · skip
    refine zv_aload_n dX8_doSet_11 rfl ?_
    refine zM_get hn zf_X8_13_6 rfl dX8_doSet_12 ?_
    refine zv_iload_n dX8_doSet_15 rfl ?_
    refine zM_ald1 hn (by first | with_reducible exact hr | with_reducible exact rk_p (hq (sF_out (by assumption)).1) _ (sF_out (by assumption)).2.1 | with_reducible exact rk_i (hq (sF_out (by assumption)).1)) dX8_doSet_16 ?_
    refine zv_istore dX8_doSet_17 (by decide) ?_
    refine zv_aload_n dX8_doSet_19 rfl ?_
    refine zM_get hn zf_X8_27_6 rfl dX8_doSet_20 ?_
    refine zv_bipushv (v := 16) dX8_doSet_23 (by decide) ?_
    refine zv_iload dX8_doSet_25 rfl ?_
    refine zv_imul dX8_doSet_27 ?_
    refine zv_iload_n dX8_doSet_28 rfl ?_
    refine zv_iadd dX8_doSet_29 ?_
    refine zv_aload_n dX8_doSet_30 rfl ?_
    refine zM_get hn zf_X8_69_6 rfl dX8_doSet_31 ?_
    refine zv_if_ne (tgt := 41) dX8_doSet_34 (by decide) (fun c34 => ?_) (fun c34 => ?_)
    · skip
      refine zv_aload_n dX8_doSet_41 rfl ?_
      refine zM_get hn zf_X8_69_6 rfl dX8_doSet_42 ?_
      refine zv_iconstv (v := 1) dX8_doSet_45 (by decide) ?_
      refine zv_icmp_ne (tgt := 66) dX8_doSet_46 (by decide) (fun c46 => ?_) (fun c46 => ?_)
      · skip
        refine zv_aload_n dX8_doSet_66 rfl ?_
        refine zM_get hn zf_X8_69_6 rfl dX8_doSet_67 ?_
        refine zv_iconstv (v := 2) dX8_doSet_70 (by decide) ?_
        refine zv_icmp_ne (tgt := 82) dX8_doSet_71 (by decide) (fun c71 => ?_) (fun c71 => ?_)
        · skip
          refine zv_aload_n dX8_doSet_82 rfl ?_
          refine zM_get hn zf_X8_72_6 rfl dX8_doSet_83 ?_
          refine zv_i2l dX8_doSet_86 ?_
          refine zv_lconstv (v := 1) dX8_doSet_87 (by decide) ?_
          refine zv_ladd dX8_doSet_88 ?_
          refine zM_ast11 hn (by first | with_reducible exact hr | with_reducible exact rk_p (hq (sF_out (by assumption)).1) _ (sF_out (by assumption)).2.1 | with_reducible exact rk_i (hq (sF_out (by assumption)).1)) dX8_doSet_89 ?_
          refine zv_iload_n dX8_doSet_90 rfl ?_
          exact zv_ireturn dX8_doSet_91 rfl (by refine ⟨?_, ?_⟩ <;> simp_all [-Int32.not_lt, -Int32.not_le, ← Int32.not_lt, xT, xW, xK, xS, xF, xP, zb_0, zb_n, out_bey, s_setS, s_setV])
        · skip
          refine zv_aload_n dX8_doSet_74 rfl ?_
          refine zM_get hn zf_X8_72_6 rfl dX8_doSet_75 ?_
          refine zv_i2l dX8_doSet_78 ?_
          refine zv_goto (tgt := 89) dX8_doSet_79 (by decide) ?_
          refine zM_ast11 hn (by first | with_reducible exact hr | with_reducible exact rk_p (hq (sF_out (by assumption)).1) _ (sF_out (by assumption)).2.1 | with_reducible exact rk_i (hq (sF_out (by assumption)).1)) dX8_doSet_89 ?_
          refine zv_iload_n dX8_doSet_90 rfl ?_
          exact zv_ireturn dX8_doSet_91 rfl (by refine ⟨?_, ?_⟩ <;> simp_all [-Int32.not_lt, -Int32.not_le, ← Int32.not_lt, xT, xW, xK, xS, xF, xP, zb_0, zb_n, out_bey, s_setS, s_setV])
      · skip
        refine zv_aload_n dX8_doSet_49 rfl ?_
        refine zM_get hn zf_X8_20_6 rfl dX8_doSet_50 ?_
        refine zv_iload dX8_doSet_53 rfl ?_
        refine zM_ald9 hn (by first | with_reducible exact hr | with_reducible exact rk_p (hq (sF_out (by assumption)).1) _ (sF_out (by assumption)).2.1 | with_reducible exact rk_i (hq (sF_out (by assumption)).1)) dX8_doSet_55 ?_
        refine zv_aload_n dX8_doSet_56 rfl ?_
        refine zM_get hn zf_X8_78_6 rfl dX8_doSet_57 ?_
        refine zv_callSq (mc := 0) (ms := 0) zm_X8_84 zkyX8_as cM_as rfl rfl (Nat.le_of_ble_eq_true rfl) (by decide) dX8_doSet_60 ?_
        refine zv_goto (tgt := 89) dX8_doSet_63 (by decide) ?_
        refine zM_ast11 hn (by first | with_reducible exact hr | with_reducible exact rk_p (hq (sF_out (by assumption)).1) _ (sF_out (by assumption)).2.1 | with_reducible exact rk_i (hq (sF_out (by assumption)).1)) dX8_doSet_89 ?_
        refine zv_iload_n dX8_doSet_90 rfl ?_
        exact zv_ireturn dX8_doSet_91 rfl (by refine ⟨?_, ?_⟩ <;> simp_all [-Int32.not_lt, -Int32.not_le, ← Int32.not_lt, xT, xW, xK, xS, xF, xP, zb_0, zb_n, out_bey, s_setS, s_setV])
    · skip
      refine zv_lconstv (v := 0) dX8_doSet_37 (by decide) ?_
      refine zv_goto (tgt := 89) dX8_doSet_38 (by decide) ?_
      refine zM_ast11 hn (by first | with_reducible exact hr | with_reducible exact rk_p (hq (sF_out (by assumption)).1) _ (sF_out (by assumption)).2.1 | with_reducible exact rk_i (hq (sF_out (by assumption)).1)) dX8_doSet_89 ?_
      refine zv_iload_n dX8_doSet_90 rfl ?_
      exact zv_ireturn dX8_doSet_91 rfl (by refine ⟨?_, ?_⟩ <;> simp_all [-Int32.not_lt, -Int32.not_le, ← Int32.not_lt, xT, xW, xK, xS, xF, xP, zb_0, zb_n, out_bey, s_setS, s_setV])
set_option maxRecDepth 20000 in
set_option maxHeartbeats 1000000 in
theorem cM_doRead {G : zh_G} {l : Launch} {g : Nat → va_E} {nn : Nat} {σ : sg} (hn : zg_B G + 28 ≤ nn) {t q i to : Int32} (hq : t = 3 → rk σ q) : zc G l yX8_doRead cX8_doRead 6 (some .int) 2 [.ref (zg_B G + 18), .int t, .int q, .int i, .int to] (ms G g σ, nn) 0 0 (fun o h' => o = some (.int (s_rF σ t q i to)) ∧ h' = (ms G g (s_readS σ t q i to), nn)) := by
  refine zc.of (by decide) (Nat.le_of_ble_eq_true rfl) ?_
  refine zv_aload_n dX8_doRead_0 rfl ?_
  refine zv_iload_n dX8_doRead_1 rfl ?_
  refine zv_iload_n dX8_doRead_2 rfl ?_
  refine zv_iload_n dX8_doRead_3 rfl ?_
  refine zv_iload dX8_doRead_4 rfl ?_
  refine zM_call hn zm_X8_130 zkyX8_readFault rfl (cM_readFault hn hq) rfl rfl (Nat.le_of_ble_eq_true rfl) (by decide) dX8_doRead_6 ?_
  refine zv_istore dX8_doRead_9 (by decide) ?_
  refine zv_iload dX8_doRead_11 rfl ?_
  refine zv_if_ne (tgt := 38) dX8_doRead_13 (by decide) (fun c13 => ?_) (fun c13 => ?_)
  · skip
    refine zv_iload dX8_doRead_38 rfl ?_
    exact zv_ireturn dX8_doRead_40 rfl (by refine ⟨?_, ?_⟩ <;> simp_all [-Int32.not_lt, -Int32.not_le, ← Int32.not_lt, xT, xW, xK, xS, xF, xP, zb_0, zb_n, out_bey, s_readS])
  · skip
    refine zv_aload_n dX8_doRead_16 rfl ?_
    refine zv_iload dX8_doRead_17 rfl ?_
    refine zv_iload dX8_doRead_19 rfl ?_
    refine zv_aload_n dX8_doRead_21 rfl ?_
    refine zM_get hn zf_X8_27_6 rfl dX8_doRead_22 ?_
    refine zv_bipushv (v := 16) dX8_doRead_25 (by decide) ?_
    refine zv_iload_n dX8_doRead_27 rfl ?_
    refine zv_imul dX8_doRead_28 ?_
    refine zv_iload_n dX8_doRead_29 rfl ?_
    refine zv_iadd dX8_doRead_30 ?_
    refine zM_ald11 hn (by exact rk_p (hq (rF_out (by assumption)).1) _ (rF_out (by assumption)).2.2.1) dX8_doRead_31 ?_
    refine zv_callSq (mc := 0) (ms := 0) zm_X8_84 zkyX8_as cM_as rfl rfl (Nat.le_of_ble_eq_true rfl) (by decide) dX8_doRead_32 ?_
    refine zM_call hn zm_X8_88 zkyX8_hold rfl (cM_hold hn) rfl rfl (Nat.le_of_ble_eq_true rfl) (by decide) dX8_doRead_35 ?_
    refine zv_iload dX8_doRead_38 rfl ?_
    exact zv_ireturn dX8_doRead_40 rfl (by refine ⟨?_, ?_⟩ <;> simp_all [-Int32.not_lt, -Int32.not_le, ← Int32.not_lt, xT, xW, xK, xS, xF, xP, zb_0, zb_n, out_bey, s_readS])
set_option maxRecDepth 20000 in
set_option maxHeartbeats 1000000 in
theorem cM_doWrite {G : zh_G} {l : Launch} {g : Nat → va_E} {nn : Nat} {σ : sg} (hn : zg_B G + 28 ≤ nn) {t q i of : Int32} {v : Int64} (hq : t = 3 → rk σ q) : zc G l yX8_doWrite cX8_doWrite 8 (some .int) 2 [.ref (zg_B G + 18), .int t, .int q, .int i, .int of, .long v] (ms G g σ, nn) 0 0 (fun o h' => o = some (.int (s_wF σ t q i of)) ∧ h' = (ms G g (s_writeS σ t q i of v), nn)) := by
  refine zc.of (by decide) (Nat.le_of_ble_eq_true rfl) ?_
  refine zv_aload_n dX8_doWrite_0 rfl ?_
  refine zv_iload_n dX8_doWrite_1 rfl ?_
  refine zv_iload_n dX8_doWrite_2 rfl ?_
  refine zv_iload_n dX8_doWrite_3 rfl ?_
  refine zv_iload dX8_doWrite_4 rfl ?_
  refine zM_call hn zm_X8_137 zkyX8_writeFault rfl (cM_writeFault hn hq) rfl rfl (Nat.le_of_ble_eq_true rfl) (by decide) dX8_doWrite_6 ?_
  refine zv_istore dX8_doWrite_9 (by decide) ?_
  refine zv_iload dX8_doWrite_11 rfl ?_
  refine zv_if_ne (tgt := 43) dX8_doWrite_13 (by decide) (fun c13 => ?_) (fun c13 => ?_)
  · skip
    refine zv_iload dX8_doWrite_43 rfl ?_
    exact zv_ireturn dX8_doWrite_45 rfl (by refine ⟨?_, ?_⟩ <;> simp_all [-Int32.not_lt, -Int32.not_le, ← Int32.not_lt, xT, xW, xK, xS, xF, xP, zb_0, zb_n, out_bey, s_writeS])
  · skip
    refine zv_aload_n dX8_doWrite_16 rfl ?_
    refine zM_get hn zf_X8_27_6 rfl dX8_doWrite_17 ?_
    refine zv_bipushv (v := 16) dX8_doWrite_20 (by decide) ?_
    refine zv_iload_n dX8_doWrite_22 rfl ?_
    refine zv_imul dX8_doWrite_23 ?_
    refine zv_iload_n dX8_doWrite_24 rfl ?_
    refine zv_iadd dX8_doWrite_25 ?_
    refine zv_aload_n dX8_doWrite_26 rfl ?_
    refine zM_get hn zf_X8_20_6 rfl dX8_doWrite_27 ?_
    refine zv_iload_n dX8_doWrite_30 rfl ?_
    refine zM_ald9 hn (by first | with_reducible exact rk_p (hq (wF_out (by assumption)).1) _ (wF_out (by assumption)).2.2.1 | with_reducible exact rk_i (hq (wF_out (by assumption)).1)) dX8_doWrite_31 ?_
    refine zv_iload dX8_doWrite_32 rfl ?_
    refine zv_lload dX8_doWrite_34 rfl ?_
    refine zv_callSq (mc := 0) (ms := 0) zm_X8_84 zkyX8_as cM_as rfl rfl (Nat.le_of_ble_eq_true rfl) (by decide) dX8_doWrite_36 ?_
    refine zv_callSq (mc := 0) (ms := 0) zm_X8_84 zkyX8_as cM_as rfl rfl (Nat.le_of_ble_eq_true rfl) (by decide) dX8_doWrite_39 ?_
    refine zM_ast11 hn (by first | with_reducible exact rk_p (hq (wF_out (by assumption)).1) _ (wF_out (by assumption)).2.2.1 | with_reducible exact rk_i (hq (wF_out (by assumption)).1)) dX8_doWrite_42 ?_
    refine zv_iload dX8_doWrite_43 rfl ?_
    exact zv_ireturn dX8_doWrite_45 rfl (by refine ⟨?_, ?_⟩ <;> simp_all [-Int32.not_lt, -Int32.not_le, ← Int32.not_lt, xT, xW, xK, xS, xF, xP, zb_0, zb_n, out_bey, s_writeS])
set_option maxRecDepth 20000 in
set_option maxHeartbeats 1000000 in
theorem cM_finds {G : zh_G} {l : Launch} {g : Nat → va_E} {nn : Nat} {σ : sg} (hn : zg_B G + 28 ≤ nn) {r i : Int32} (hr : vp_in r 10) (hq : xT σ r = 3 → rk σ (xW σ r)) : zc G l yX8_finds cX8_finds 7 (some .int) 2 [.ref (zg_B G + 18), .int r, .int i] (ms G g σ, nn) 0 0 (fun o h' => o = some (.int (s_gF σ (xT σ r) (xW σ r) i)) ∧ h' = (ms G g (s_fiS σ r i), nn)) := by
  refine zc.of (by decide) (Nat.le_of_ble_eq_true rfl) ?_
  refine zv_aload_n dX8_finds_0 rfl ?_
  refine zv_aload_n dX8_finds_1 rfl ?_
  refine zM_get hn zf_X8_7_6 rfl dX8_finds_2 ?_
  refine zv_iload_n dX8_finds_5 rfl ?_
  refine zM_ald0 hn (by first | with_reducible exact hr | with_reducible exact rk_p (hq (gF_out (by assumption)).1) _ (gF_out (by assumption)).2 | with_reducible exact rk_i (hq (gF_out (by assumption)).1)) dX8_finds_6 ?_
  refine zv_aload_n dX8_finds_7 rfl ?_
  refine zM_get hn zf_X8_13_6 rfl dX8_finds_8 ?_
  refine zv_iload_n dX8_finds_11 rfl ?_
  refine zM_ald1 hn (by first | with_reducible exact hr | with_reducible exact rk_p (hq (gF_out (by assumption)).1) _ (gF_out (by assumption)).2 | with_reducible exact rk_i (hq (gF_out (by assumption)).1)) dX8_finds_12 ?_
  refine zv_iload_n dX8_finds_13 rfl ?_
  refine zM_call hn zm_X8_107 zkyX8_getFault rfl (cM_getFault hn hq) rfl rfl (Nat.le_of_ble_eq_true rfl) (by decide) dX8_finds_14 ?_
  refine zv_istore_n dX8_finds_17 (by decide) ?_
  refine zv_iload_n dX8_finds_18 rfl ?_
  refine zv_if_ne (tgt := 113) dX8_finds_19 (by decide) (fun c19 => ?_) (fun c19 => ?_)
  · skip
    refine zv_iload_n dX8_finds_113 rfl ?_
    exact zv_ireturn dX8_finds_114 rfl (by refine ⟨?_, ?_⟩ <;> simp_all [-Int32.not_lt, -Int32.not_le, ← Int32.not_lt, xT, xW, xK, xS, xF, xP, zb_0, zb_n, out_bey, s_fiS, s_fiT, cmp_eq, si, upd])
  · skip
    refine zv_aload_n dX8_finds_22 rfl ?_
    refine zM_get hn zf_X8_13_6 rfl dX8_finds_23 ?_
    refine zv_iload_n dX8_finds_26 rfl ?_
    refine zM_ald1 hn (by first | with_reducible exact hr | with_reducible exact rk_p (hq (gF_out (by assumption)).1) _ (gF_out (by assumption)).2 | with_reducible exact rk_i (hq (gF_out (by assumption)).1)) dX8_finds_27 ?_
    refine zv_istore dX8_finds_28 (by decide) ?_
    refine zv_aload_n dX8_finds_30 rfl ?_
    refine zM_get hn zf_X8_27_6 rfl dX8_finds_31 ?_
    refine zv_bipushv (v := 16) dX8_finds_34 (by decide) ?_
    refine zv_iload dX8_finds_36 rfl ?_
    refine zv_imul dX8_finds_38 ?_
    refine zv_iload_n dX8_finds_39 rfl ?_
    refine zv_iadd dX8_finds_40 ?_
    refine zM_ald11 hn (by first | with_reducible exact hr | with_reducible exact rk_p (hq (gF_out (by assumption)).1) _ (gF_out (by assumption)).2 | with_reducible exact rk_i (hq (gF_out (by assumption)).1)) dX8_finds_41 ?_
    refine zv_lstore dX8_finds_42 (by decide) ?_
    refine zv_aload_n dX8_finds_44 rfl ?_
    refine zv_aload_n dX8_finds_45 rfl ?_
    refine zM_get hn zf_X8_20_6 rfl dX8_finds_46 ?_
    refine zv_iload dX8_finds_49 rfl ?_
    refine zM_ald9 hn (by first | with_reducible exact hr | with_reducible exact rk_p (hq (gF_out (by assumption)).1) _ (gF_out (by assumption)).2 | with_reducible exact rk_i (hq (gF_out (by assumption)).1)) dX8_finds_51 ?_
    refine zv_bipushv (v := 8) dX8_finds_52 (by decide) ?_
    refine zv_icmp_ge (tgt := 61) dX8_finds_54 (by decide) (fun c54 => ?_) (fun c54 => ?_)
    · skip
      refine zv_lload dX8_finds_61 rfl ?_
      refine zv_lconstv (v := 0) dX8_finds_63 (by decide) ?_
      refine zv_lcmp dX8_finds_64 ?_
      refine zv_if_ne (tgt := 72) dX8_finds_65 (by decide) (fun c65 => ?_) (fun c65 => ?_)
      · skip
        refine zv_aload_n dX8_finds_72 rfl ?_
        refine zM_get hn zf_X8_20_6 rfl dX8_finds_73 ?_
        refine zv_iload dX8_finds_76 rfl ?_
        refine zM_ald9 hn (by first | with_reducible exact hr | with_reducible exact rk_p (hq (gF_out (by assumption)).1) _ (gF_out (by assumption)).2 | with_reducible exact rk_i (hq (gF_out (by assumption)).1)) dX8_finds_78 ?_
        refine zv_bipushv (v := 10) dX8_finds_79 (by decide) ?_
        refine zv_icmp_ne (tgt := 88) dX8_finds_81 (by decide) (fun c81 => ?_) (fun c81 => ?_)
        · skip
          refine zv_iconstv (v := 2) dX8_finds_88 (by decide) ?_
          refine zM_put18 hn zfw_X8_147_6 dX8_finds_89 ?_
          refine zv_aload_n dX8_finds_92 rfl ?_
          refine zv_aload_n dX8_finds_93 rfl ?_
          refine zM_get hn zf_X8_147_6 rfl dX8_finds_94 ?_
          refine zv_iconstv (v := 3) dX8_finds_97 (by decide) ?_
          refine zv_icmp_ne (tgt := 109) dX8_finds_98 (by decide) (fun c98 => ?_) (fun c98 => ?_)
          · skip
            refine zv_iconstv (v := 0) dX8_finds_109 (by decide) ?_
            refine zM_put19 hn zfw_X8_150_6 dX8_finds_110 ?_
            refine zv_iload_n dX8_finds_113 rfl ?_
            exact zv_ireturn dX8_finds_114 rfl (by refine ⟨?_, ?_⟩ <;> simp_all [-Int32.not_lt, -Int32.not_le, ← Int32.not_lt, xT, xW, xK, xS, xF, xP, zb_0, zb_n, out_bey, s_fiS, s_fiT, cmp_eq, si, upd])
          · skip
            refine zv_lload dX8_finds_101 rfl ?_
            refine zv_l2i dX8_finds_103 ?_
            refine zv_iconstv (v := 1) dX8_finds_104 (by decide) ?_
            refine zv_isub dX8_finds_105 ?_
            refine zv_goto (tgt := 110) dX8_finds_106 (by decide) ?_
            refine zM_put19 hn zfw_X8_150_6 dX8_finds_110 ?_
            refine zv_iload_n dX8_finds_113 rfl ?_
            exact zv_ireturn dX8_finds_114 rfl (by refine ⟨?_, ?_⟩ <;> simp_all [-Int32.not_lt, -Int32.not_le, ← Int32.not_lt, xT, xW, xK, xS, xF, xP, zb_0, zb_n, out_bey, s_fiS, s_fiT, cmp_eq, si, upd])
        · skip
          refine zv_iconstv (v := 3) dX8_finds_84 (by decide) ?_
          refine zv_goto (tgt := 89) dX8_finds_85 (by decide) ?_
          refine zM_put18 hn zfw_X8_147_6 dX8_finds_89 ?_
          refine zv_aload_n dX8_finds_92 rfl ?_
          refine zv_aload_n dX8_finds_93 rfl ?_
          refine zM_get hn zf_X8_147_6 rfl dX8_finds_94 ?_
          refine zv_iconstv (v := 3) dX8_finds_97 (by decide) ?_
          refine zv_icmp_ne (tgt := 109) dX8_finds_98 (by decide) (fun c98 => ?_) (fun c98 => ?_)
          · skip
            refine zv_iconstv (v := 0) dX8_finds_109 (by decide) ?_
            refine zM_put19 hn zfw_X8_150_6 dX8_finds_110 ?_
            refine zv_iload_n dX8_finds_113 rfl ?_
            exact zv_ireturn dX8_finds_114 rfl (by refine ⟨?_, ?_⟩ <;> simp_all [-Int32.not_lt, -Int32.not_le, ← Int32.not_lt, xT, xW, xK, xS, xF, xP, zb_0, zb_n, out_bey, s_fiS, s_fiT, cmp_eq, si, upd])
          · skip
            refine zv_lload dX8_finds_101 rfl ?_
            refine zv_l2i dX8_finds_103 ?_
            refine zv_iconstv (v := 1) dX8_finds_104 (by decide) ?_
            refine zv_isub dX8_finds_105 ?_
            refine zv_goto (tgt := 110) dX8_finds_106 (by decide) ?_
            refine zM_put19 hn zfw_X8_150_6 dX8_finds_110 ?_
            refine zv_iload_n dX8_finds_113 rfl ?_
            exact zv_ireturn dX8_finds_114 rfl (by refine ⟨?_, ?_⟩ <;> simp_all [-Int32.not_lt, -Int32.not_le, ← Int32.not_lt, xT, xW, xK, xS, xF, xP, zb_0, zb_n, out_bey, s_fiS, s_fiT, cmp_eq, si, upd])
      · skip
        refine zv_iconstv (v := 0) dX8_finds_68 (by decide) ?_
        refine zv_goto (tgt := 89) dX8_finds_69 (by decide) ?_
        refine zM_put18 hn zfw_X8_147_6 dX8_finds_89 ?_
        refine zv_aload_n dX8_finds_92 rfl ?_
        refine zv_aload_n dX8_finds_93 rfl ?_
        refine zM_get hn zf_X8_147_6 rfl dX8_finds_94 ?_
        refine zv_iconstv (v := 3) dX8_finds_97 (by decide) ?_
        refine zv_icmp_ne (tgt := 109) dX8_finds_98 (by decide) (fun c98 => ?_) (fun c98 => ?_)
        · skip
          refine zv_iconstv (v := 0) dX8_finds_109 (by decide) ?_
          refine zM_put19 hn zfw_X8_150_6 dX8_finds_110 ?_
          refine zv_iload_n dX8_finds_113 rfl ?_
          exact zv_ireturn dX8_finds_114 rfl (by refine ⟨?_, ?_⟩ <;> simp_all [-Int32.not_lt, -Int32.not_le, ← Int32.not_lt, xT, xW, xK, xS, xF, xP, zb_0, zb_n, out_bey, s_fiS, s_fiT, cmp_eq, si, upd])
        · skip
          refine zv_lload dX8_finds_101 rfl ?_
          refine zv_l2i dX8_finds_103 ?_
          refine zv_iconstv (v := 1) dX8_finds_104 (by decide) ?_
          refine zv_isub dX8_finds_105 ?_
          refine zv_goto (tgt := 110) dX8_finds_106 (by decide) ?_
          refine zM_put19 hn zfw_X8_150_6 dX8_finds_110 ?_
          refine zv_iload_n dX8_finds_113 rfl ?_
          exact zv_ireturn dX8_finds_114 rfl (by refine ⟨?_, ?_⟩ <;> simp_all [-Int32.not_lt, -Int32.not_le, ← Int32.not_lt, xT, xW, xK, xS, xF, xP, zb_0, zb_n, out_bey, s_fiS, s_fiT, cmp_eq, si, upd])
    · skip
      refine zv_iconstv (v := 1) dX8_finds_57 (by decide) ?_
      refine zv_goto (tgt := 89) dX8_finds_58 (by decide) ?_
      refine zM_put18 hn zfw_X8_147_6 dX8_finds_89 ?_
      refine zv_aload_n dX8_finds_92 rfl ?_
      refine zv_aload_n dX8_finds_93 rfl ?_
      refine zM_get hn zf_X8_147_6 rfl dX8_finds_94 ?_
      refine zv_iconstv (v := 3) dX8_finds_97 (by decide) ?_
      refine zv_icmp_ne (tgt := 109) dX8_finds_98 (by decide) (fun c98 => ?_) (fun c98 => ?_)
      · skip
        refine zv_iconstv (v := 0) dX8_finds_109 (by decide) ?_
        refine zM_put19 hn zfw_X8_150_6 dX8_finds_110 ?_
        refine zv_iload_n dX8_finds_113 rfl ?_
        exact zv_ireturn dX8_finds_114 rfl (by refine ⟨?_, ?_⟩ <;> simp_all [-Int32.not_lt, -Int32.not_le, ← Int32.not_lt, xT, xW, xK, xS, xF, xP, zb_0, zb_n, out_bey, s_fiS, s_fiT, cmp_eq, si, upd])
      · skip
        refine zv_lload dX8_finds_101 rfl ?_
        refine zv_l2i dX8_finds_103 ?_
        refine zv_iconstv (v := 1) dX8_finds_104 (by decide) ?_
        refine zv_isub dX8_finds_105 ?_
        refine zv_goto (tgt := 110) dX8_finds_106 (by decide) ?_
        refine zM_put19 hn zfw_X8_150_6 dX8_finds_110 ?_
        refine zv_iload_n dX8_finds_113 rfl ?_
        exact zv_ireturn dX8_finds_114 rfl (by refine ⟨?_, ?_⟩ <;> simp_all [-Int32.not_lt, -Int32.not_le, ← Int32.not_lt, xT, xW, xK, xS, xF, xP, zb_0, zb_n, out_bey, s_fiS, s_fiT, cmp_eq, si, upd])
set_option maxRecDepth 20000 in
set_option maxHeartbeats 1000000 in
theorem cM_doWithin {G : zh_G} {l : Launch} {g : Nat → va_E} {nn : Nat} {σ : sg} (hn : zg_B G + 28 ≤ nn) {r i j : Int32} (hr : vp_in r 10) (hq : xT σ r = 3 → rk σ (xW σ r)) (hf : s_gF σ (xT σ r) (xW σ r) i ≤ 0 → (s_fiS σ r i).1 18 = 3 → rk (s_fiS σ r i) ((s_fiS σ r i).1 19)) : zc G l yX8_doWithin cX8_doWithin 5 (some .int) 3 [.ref (zg_B G + 18), .int r, .int i, .int j] (ms G g σ, nn) 0 0 (fun o h' => o = some (.int (s_wiF σ r i j)) ∧ h' = (ms G g (s_wiS σ r i j), nn)) := by
  refine zc.of (by decide) (Nat.le_of_ble_eq_true rfl) ?_
  refine zv_aload_n dX8_doWithin_0 rfl ?_
  refine zv_iload_n dX8_doWithin_1 rfl ?_
  refine zv_iload_n dX8_doWithin_2 rfl ?_
  refine zM_callg hn zm_X8_153 zkyX8_finds rfl (cM_finds hn hr hq) rfl rfl (Nat.le_of_ble_eq_true rfl) (by decide) dX8_doWithin_3 (fun σ3 e3 => ?_)
  refine zv_istore dX8_doWithin_6 (by decide) ?_
  refine zv_iload dX8_doWithin_8 rfl ?_
  refine zv_if_le (tgt := 18) dX8_doWithin_10 (by decide) (fun c10 => ?_) (fun c10 => ?_)
  · skip
    refine zv_aload_n dX8_doWithin_18 rfl ?_
    refine zv_aload_n dX8_doWithin_19 rfl ?_
    refine zM_get hn zf_X8_147_6 rfl dX8_doWithin_20 ?_
    refine zv_aload_n dX8_doWithin_23 rfl ?_
    refine zM_get hn zf_X8_150_6 rfl dX8_doWithin_24 ?_
    refine zv_iload_n dX8_doWithin_27 rfl ?_
    refine zv_iconstv (v := 5) dX8_doWithin_28 (by decide) ?_
    refine zM_call hn zm_X8_134 zkyX8_doRead rfl (cM_doRead hn (by subst e3; exact hf (by assumption))) rfl rfl (Nat.le_of_ble_eq_true rfl) (by decide) dX8_doWithin_29 ?_
    exact zv_ireturn dX8_doWithin_32 rfl (by refine ⟨?_, ?_⟩ <;> simp_all [-Int32.not_lt, -Int32.not_le, ← Int32.not_lt, xT, xW, xK, xS, xF, xP, zb_0, zb_n, out_bey, s_wiF, s_wiS])
  · skip
    refine zv_iload dX8_doWithin_13 rfl ?_
    refine zv_goto (tgt := 32) dX8_doWithin_15 (by decide) ?_
    exact zv_ireturn dX8_doWithin_32 rfl (by refine ⟨?_, ?_⟩ <;> simp_all [-Int32.not_lt, -Int32.not_le, ← Int32.not_lt, xT, xW, xK, xS, xF, xP, zb_0, zb_n, out_bey, s_wiF, s_wiS])
set_option maxRecDepth 20000 in
set_option maxHeartbeats 1000000 in
theorem cM_firstFault {G : zh_G} {l : Launch} {g : Nat → va_E} {nn : Nat} {σ : sg} (hn : zg_B G + 28 ≤ nn) {r : Int32} (hr : vp_in r 10) (hq : xT σ r = 3 → rk σ (xW σ r)) : zc G l yX8_firstFault cX8_firstFault 3 (some .int) 1 [.ref (zg_B G + 18), .int r] (ms G g σ, nn) 0 0 (fun o h' => o = some (.int (if 0 < s_szF σ r then s_szF σ r else if xS σ (xW σ r) = 0 then 3 else 0)) ∧ h' = (ms G g σ, nn)) := by
  refine zc.of (by decide) (Nat.le_of_ble_eq_true rfl) ?_
  refine zv_aload_n dX8_firstFault_0 rfl ?_
  refine zv_iload_n dX8_firstFault_1 rfl ?_
  refine zM_call hn zm_X8_144 zkyX8_sizeFault rfl (cM_sizeFault hn hr) rfl rfl (Nat.le_of_ble_eq_true rfl) (by decide) dX8_firstFault_2 ?_
  refine zv_istore_n dX8_firstFault_5 (by decide) ?_
  refine zv_iload_n dX8_firstFault_6 rfl ?_
  refine zv_if_le (tgt := 14) dX8_firstFault_7 (by decide) (fun c7 => ?_) (fun c7 => ?_)
  · skip
    refine zv_aload_n dX8_firstFault_14 rfl ?_
    refine zM_get hn zf_X8_23_6 rfl dX8_firstFault_15 ?_
    refine zv_aload_n dX8_firstFault_18 rfl ?_
    refine zM_get hn zf_X8_13_6 rfl dX8_firstFault_19 ?_
    refine zv_iload_n dX8_firstFault_22 rfl ?_
    refine zM_ald1 hn (by first | with_reducible exact hr | with_reducible exact rk_i (hq (szF_3 (by assumption)))) dX8_firstFault_23 ?_
    refine zM_ald10 hn (by first | with_reducible exact hr | with_reducible exact rk_i (hq (szF_3 (by assumption)))) dX8_firstFault_24 ?_
    refine zv_if_ne (tgt := 32) dX8_firstFault_25 (by decide) (fun c25 => ?_) (fun c25 => ?_)
    · skip
      refine zv_iconstv (v := 0) dX8_firstFault_32 (by decide) ?_
      exact zv_ireturn dX8_firstFault_33 rfl (by refine ⟨?_, ?_⟩ <;> simp_all [-Int32.not_lt, -Int32.not_le, ← Int32.not_lt, xT, xW, xK, xS, xF, xP, zb_0, zb_n, out_bey])
    · skip
      refine zv_iconstv (v := 3) dX8_firstFault_28 (by decide) ?_
      refine zv_goto (tgt := 33) dX8_firstFault_29 (by decide) ?_
      exact zv_ireturn dX8_firstFault_33 rfl (by refine ⟨?_, ?_⟩ <;> simp_all [-Int32.not_lt, -Int32.not_le, ← Int32.not_lt, xT, xW, xK, xS, xF, xP, zb_0, zb_n, out_bey])
  · skip
    refine zv_iload_n dX8_firstFault_10 rfl ?_
    refine zv_goto (tgt := 33) dX8_firstFault_11 (by decide) ?_
    exact zv_ireturn dX8_firstFault_33 rfl (by refine ⟨?_, ?_⟩ <;> simp_all [-Int32.not_lt, -Int32.not_le, ← Int32.not_lt, xT, xW, xK, xS, xF, xP, zb_0, zb_n, out_bey])
set_option maxRecDepth 20000 in
set_option maxHeartbeats 1000000 in
theorem cM_has {G : zh_G} {l : Launch} {g : Nat → va_E} {nn : Nat} {σ : sg} (hn : zg_B G + 28 ≤ nn) (hw : σ.1 2 ≠ 0 → σ.1 2 ≠ 1 → σ.1 2 ≠ 3 → vp_in (σ.1 5) 41) : zc G l yX8_has cX8_has 1 (some .int) 0 [.ref (zg_B G + 18)] (ms G g σ, nn) 0 0 (fun o h' => o = some (.int (s_has σ)) ∧ h' = (ms G g σ, nn)) := by
  refine zc.of (by decide) (Nat.le_of_ble_eq_true rfl) ?_
  refine zv_aload_n dX8_has_0 rfl ?_
  refine zM_get hn zf_X8_69_6 rfl dX8_has_1 ?_
  refine zv_if_ne (tgt := 12) dX8_has_4 (by decide) (fun c4 => ?_) (fun c4 => ?_)
  · skip
    refine zv_aload_n dX8_has_12 rfl ?_
    refine zM_get hn zf_X8_69_6 rfl dX8_has_13 ?_
    refine zv_iconstv (v := 1) dX8_has_16 (by decide) ?_
    refine zv_icmp_ne (tgt := 27) dX8_has_17 (by decide) (fun c17 => ?_) (fun c17 => ?_)
    · skip
      refine zv_aload_n dX8_has_27 rfl ?_
      refine zM_get hn zf_X8_69_6 rfl dX8_has_28 ?_
      refine zv_iconstv (v := 3) dX8_has_31 (by decide) ?_
      refine zv_icmp_ne (tgt := 40) dX8_has_32 (by decide) (fun c32 => ?_) (fun c32 => ?_)
      · skip
        refine zv_aload_n dX8_has_40 rfl ?_
        refine zM_get hn zf_X8_16_6 rfl dX8_has_41 ?_
        refine zv_aload_n dX8_has_44 rfl ?_
        refine zM_get hn zf_X8_72_6 rfl dX8_has_45 ?_
        refine zM_ald7 hn (hw (by assumption) (by assumption) (by assumption)) dX8_has_48 ?_
        refine zv_if_eq (tgt := 57) dX8_has_49 (by decide) (fun c49 => ?_) (fun c49 => ?_)
        · skip
          refine zv_bipushv (v := 8) dX8_has_57 (by decide) ?_
          exact zv_ireturn dX8_has_59 rfl (by refine ⟨?_, ?_⟩ <;> simp_all [-Int32.not_lt, -Int32.not_le, ← Int32.not_lt, xT, xW, xK, xS, xF, xP, zb_0, zb_n, out_bey, s_has])
        · skip
          refine zv_bipushv (v := 9) dX8_has_52 (by decide) ?_
          refine zv_goto (tgt := 59) dX8_has_54 (by decide) ?_
          exact zv_ireturn dX8_has_59 rfl (by refine ⟨?_, ?_⟩ <;> simp_all [-Int32.not_lt, -Int32.not_le, ← Int32.not_lt, xT, xW, xK, xS, xF, xP, zb_0, zb_n, out_bey, s_has])
      · skip
        refine zv_bipushv (v := 10) dX8_has_35 (by decide) ?_
        refine zv_goto (tgt := 59) dX8_has_37 (by decide) ?_
        exact zv_ireturn dX8_has_59 rfl (by refine ⟨?_, ?_⟩ <;> simp_all [-Int32.not_lt, -Int32.not_le, ← Int32.not_lt, xT, xW, xK, xS, xF, xP, zb_0, zb_n, out_bey, s_has])
    · skip
      refine zv_aload_n dX8_has_20 rfl ?_
      refine zM_get hn zf_X8_75_6 rfl dX8_has_21 ?_
      refine zv_goto (tgt := 59) dX8_has_24 (by decide) ?_
      exact zv_ireturn dX8_has_59 rfl (by refine ⟨?_, ?_⟩ <;> simp_all [-Int32.not_lt, -Int32.not_le, ← Int32.not_lt, xT, xW, xK, xS, xF, xP, zb_0, zb_n, out_bey, s_has])
  · skip
    refine zv_bipushv (v := (-9)) dX8_has_7 (by decide) ?_
    refine zv_goto (tgt := 59) dX8_has_9 (by decide) ?_
    exact zv_ireturn dX8_has_59 rfl (by refine ⟨?_, ?_⟩ <;> simp_all [-Int32.not_lt, -Int32.not_le, ← Int32.not_lt, xT, xW, xK, xS, xF, xP, zb_0, zb_n, out_bey, s_has])
set_option maxRecDepth 20000 in
set_option maxHeartbeats 1000000 in
theorem cM_value {G : zh_G} {l : Launch} {g : Nat → va_E} {nn : Nat} {σ : sg} (hn : zg_B G + 28 ≤ nn) (hw : σ.1 2 ≠ 0 → σ.1 2 ≠ 1 → σ.1 2 ≠ 2 → vp_in (σ.1 5) 5000) : zc G l yX8_value cX8_value 1 (some .long) 0 [.ref (zg_B G + 18)] (ms G g σ, nn) 0 0 (fun o h' => o = some (.long (s_val σ)) ∧ h' = (ms G g σ, nn)) := by
  refine zc.of (by decide) (Nat.le_of_ble_eq_true rfl) ?_
  refine zv_aload_n dX8_value_0 rfl ?_
  refine zM_get hn zf_X8_69_6 rfl dX8_value_1 ?_
  refine zv_if_ne (tgt := 11) dX8_value_4 (by decide) (fun c4 => ?_) (fun c4 => ?_)
  · skip
    refine zv_aload_n dX8_value_11 rfl ?_
    refine zM_get hn zf_X8_69_6 rfl dX8_value_12 ?_
    refine zv_iconstv (v := 1) dX8_value_15 (by decide) ?_
    refine zv_icmp_ne (tgt := 26) dX8_value_16 (by decide) (fun c16 => ?_) (fun c16 => ?_)
    · skip
      refine zv_aload_n dX8_value_26 rfl ?_
      refine zM_get hn zf_X8_69_6 rfl dX8_value_27 ?_
      refine zv_iconstv (v := 2) dX8_value_30 (by decide) ?_
      refine zv_icmp_ne (tgt := 42) dX8_value_31 (by decide) (fun c31 => ?_) (fun c31 => ?_)
      · skip
        refine zv_aload_n dX8_value_42 rfl ?_
        refine zM_get hn zf_X8_23_6 rfl dX8_value_43 ?_
        refine zv_aload_n dX8_value_46 rfl ?_
        refine zM_get hn zf_X8_72_6 rfl dX8_value_47 ?_
        refine zM_ald10 hn (hw (by assumption) (by assumption) (by assumption)) dX8_value_50 ?_
        refine zv_i2l dX8_value_51 ?_
        exact zv_lreturn dX8_value_52 rfl (by refine ⟨?_, ?_⟩ <;> simp_all [-Int32.not_lt, -Int32.not_le, ← Int32.not_lt, xT, xW, xK, xS, xF, xP, zb_0, zb_n, out_bey, s_val])
      · skip
        refine zv_aload_n dX8_value_34 rfl ?_
        refine zM_get hn zf_X8_72_6 rfl dX8_value_35 ?_
        refine zv_i2l dX8_value_38 ?_
        refine zv_goto (tgt := 52) dX8_value_39 (by decide) ?_
        exact zv_lreturn dX8_value_52 rfl (by refine ⟨?_, ?_⟩ <;> simp_all [-Int32.not_lt, -Int32.not_le, ← Int32.not_lt, xT, xW, xK, xS, xF, xP, zb_0, zb_n, out_bey, s_val])
    · skip
      refine zv_aload_n dX8_value_19 rfl ?_
      refine zM_get hn zf_X8_78_6 rfl dX8_value_20 ?_
      refine zv_goto (tgt := 52) dX8_value_23 (by decide) ?_
      exact zv_lreturn dX8_value_52 rfl (by refine ⟨?_, ?_⟩ <;> simp_all [-Int32.not_lt, -Int32.not_le, ← Int32.not_lt, xT, xW, xK, xS, xF, xP, zb_0, zb_n, out_bey, s_val])
  · skip
    refine zv_lconstv (v := 0) dX8_value_7 (by decide) ?_
    refine zv_goto (tgt := 52) dX8_value_8 (by decide) ?_
    exact zv_lreturn dX8_value_52 rfl (by refine ⟨?_, ?_⟩ <;> simp_all [-Int32.not_lt, -Int32.not_le, ← Int32.not_lt, xT, xW, xK, xS, xF, xP, zb_0, zb_n, out_bey, s_val])
