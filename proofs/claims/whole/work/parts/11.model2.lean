theorem rk_i {σ : sg} {q : Int32} (h : rk σ q) : vp_in q 5000 := h.1
theorem rk_p {σ : sg} {q : Int32} (h : rk σ q) (i : Int32) (hi : s_out i (xS σ q) = false) : vp_in (16 * q + i) 80000 := h.2 i hi
set_option maxRecDepth 20000 in
set_option maxHeartbeats 4000000 in
theorem cM_isNumbers {G : zh_G} {l : Launch} {g : Nat → va_E} {nn : Nat} {σ : sg} (hn : zg_B G + 28 ≤ nn) {q : Int32} (hr : vp_in q 5000) : zc G l yX8_isNumbers cX8_isNumbers 2 (some .boolean) 0 [.ref (zg_B G + 18), .int q] (ms G g σ, nn) 0 0 (fun o h' => o = some (.int (zb (decide (xK σ q < 8)))) ∧ h' = (ms G g σ, nn)) := by
  refine zc.of (by decide) (Nat.le_of_ble_eq_true rfl) ?_
  refine zv_aload_n dX8_isNumbers_0 rfl ?_
  refine zM_get hn zf_X8_20_6 rfl dX8_isNumbers_1 ?_
  refine zv_iload_n dX8_isNumbers_4 rfl ?_
  refine zM_ald9 hn (by first | with_reducible assumption | with_reducible exact hr | with_reducible exact rk_i (hq (by assumption)) | with_reducible exact rk_i (hq (by simp_all)) | with_reducible exact rk_p (hq (by simp_all)) _ (by simp_all)) dX8_isNumbers_5 ?_
  refine zv_bipushv (v := 8) dX8_isNumbers_6 (by decide) ?_
  refine zv_icmp_ge (tgt := 15) dX8_isNumbers_8 (by decide) (fun c8 => ?_) (fun c8 => ?_)
  · skip
    refine zv_iconstv (v := 0) dX8_isNumbers_15 (by decide) ?_
    exact zv_zreturn dX8_isNumbers_16 rfl (by decide) (by refine ⟨?_, ?_⟩ <;> simp_all [-Int32.not_lt, -Int32.not_le, ← Int32.not_lt, xT, xW, xK, xS, xF, xP, zb_0, zb_n, out_bey, zb])
  · skip
    refine zv_iconstv (v := 1) dX8_isNumbers_11 (by decide) ?_
    refine zv_goto (tgt := 16) dX8_isNumbers_12 (by decide) ?_
    exact zv_zreturn dX8_isNumbers_16 rfl (by decide) (by refine ⟨?_, ?_⟩ <;> simp_all [-Int32.not_lt, -Int32.not_le, ← Int32.not_lt, xT, xW, xK, xS, xF, xP, zb_0, zb_n, out_bey, zb])
set_option maxRecDepth 20000 in
set_option maxHeartbeats 4000000 in
theorem cM_getFault {G : zh_G} {l : Launch} {g : Nat → va_E} {nn : Nat} {σ : sg} (hn : zg_B G + 28 ≤ nn) {t q i : Int32} (hq : t = 3 → rk σ q) : zc G l yX8_getFault cX8_getFault 4 (some .int) 1 [.ref (zg_B G + 18), .int t, .int q, .int i] (ms G g σ, nn) 0 0 (fun o h' => o = some (.int (s_gF σ t q i)) ∧ h' = (ms G g σ, nn)) := by
  refine zc.of (by decide) (Nat.le_of_ble_eq_true rfl) ?_
  refine zv_iload_n dX8_getFault_0 rfl ?_
  refine zv_if_ne (tgt := 8) dX8_getFault_1 (by decide) (fun c1 => ?_) (fun c1 => ?_)
  · skip
    refine zv_iload_n dX8_getFault_8 rfl ?_
    refine zv_iconstv (v := 3) dX8_getFault_9 (by decide) ?_
    refine zv_icmp_eq (tgt := 17) dX8_getFault_10 (by decide) (fun c10 => ?_) (fun c10 => ?_)
    · skip
      refine zv_iload_n dX8_getFault_17 rfl ?_
      refine zv_i2l dX8_getFault_18 ?_
      refine zv_lconstv (v := 0) dX8_getFault_19 (by decide) ?_
      refine zv_aload_n dX8_getFault_20 rfl ?_
      refine zM_get hn zf_X8_23_6 rfl dX8_getFault_21 ?_
      refine zv_iload_n dX8_getFault_24 rfl ?_
      refine zM_ald10 hn (by first | with_reducible assumption | with_reducible exact hr | with_reducible exact rk_i (hq (by assumption)) | with_reducible exact rk_i (hq (by simp_all)) | with_reducible exact rk_p (hq (by simp_all)) _ (by simp_all)) dX8_getFault_25 ?_
      refine zv_iconstv (v := 1) dX8_getFault_26 (by decide) ?_
      refine zv_isub dX8_getFault_27 ?_
      refine zv_i2l dX8_getFault_28 ?_
      refine zv_callSq (mc := 0) (ms := 0) zm_X8_42 zkyX8_beyond cM_beyond rfl rfl (Nat.le_of_ble_eq_true rfl) (by decide) dX8_getFault_29 ?_
      refine zv_if_eq (tgt := 39) dX8_getFault_32 (by decide) (fun c32 => ?_) (fun c32 => ?_)
      · skip
        refine zv_iconstv (v := 0) dX8_getFault_39 (by decide) ?_
        exact zv_ireturn dX8_getFault_40 rfl (by refine ⟨?_, ?_⟩ <;> simp_all [-Int32.not_lt, -Int32.not_le, ← Int32.not_lt, xT, xW, xK, xS, xF, xP, zb_0, zb_n, out_bey, s_gF])
      · skip
        refine zv_iconstv (v := 3) dX8_getFault_35 (by decide) ?_
        refine zv_goto (tgt := 40) dX8_getFault_36 (by decide) ?_
        exact zv_ireturn dX8_getFault_40 rfl (by refine ⟨?_, ?_⟩ <;> simp_all [-Int32.not_lt, -Int32.not_le, ← Int32.not_lt, xT, xW, xK, xS, xF, xP, zb_0, zb_n, out_bey, s_gF])
    · skip
      refine zv_iconstv (v := 2) dX8_getFault_13 (by decide) ?_
      refine zv_goto (tgt := 40) dX8_getFault_14 (by decide) ?_
      exact zv_ireturn dX8_getFault_40 rfl (by refine ⟨?_, ?_⟩ <;> simp_all [-Int32.not_lt, -Int32.not_le, ← Int32.not_lt, xT, xW, xK, xS, xF, xP, zb_0, zb_n, out_bey, s_gF])
  · skip
    refine zv_iconstv (v := 1) dX8_getFault_4 (by decide) ?_
    refine zv_goto (tgt := 40) dX8_getFault_5 (by decide) ?_
    exact zv_ireturn dX8_getFault_40 rfl (by refine ⟨?_, ?_⟩ <;> simp_all [-Int32.not_lt, -Int32.not_le, ← Int32.not_lt, xT, xW, xK, xS, xF, xP, zb_0, zb_n, out_bey, s_gF])
set_option maxRecDepth 20000 in
set_option maxHeartbeats 4000000 in
theorem cM_readFault {G : zh_G} {l : Launch} {g : Nat → va_E} {nn : Nat} {σ : sg} (hn : zg_B G + 28 ≤ nn) {t q i to : Int32} (hq : t = 3 → rk σ q) : zc G l yX8_readFault cX8_readFault 5 (some .int) 1 [.ref (zg_B G + 18), .int t, .int q, .int i, .int to] (ms G g σ, nn) 0 0 (fun o h' => o = some (.int (s_rF σ t q i to)) ∧ h' = (ms G g σ, nn)) := by
  refine zc.of (by decide) (Nat.le_of_ble_eq_true rfl) ?_
  refine zv_iload_n dX8_readFault_0 rfl ?_
  refine zv_if_ne (tgt := 8) dX8_readFault_1 (by decide) (fun c1 => ?_) (fun c1 => ?_)
  · skip
    refine zv_iload_n dX8_readFault_8 rfl ?_
    refine zv_iconstv (v := 3) dX8_readFault_9 (by decide) ?_
    refine zv_icmp_ne (tgt := 21) dX8_readFault_10 (by decide) (fun c10 => ?_) (fun c10 => ?_)
    · skip
      refine zv_iconstv (v := 2) dX8_readFault_21 (by decide) ?_
      refine zv_goto (tgt := 66) dX8_readFault_22 (by decide) ?_
      exact zv_ireturn dX8_readFault_66 rfl (by refine ⟨?_, ?_⟩ <;> simp_all [-Int32.not_lt, -Int32.not_le, ← Int32.not_lt, xT, xW, xK, xS, xF, xP, zb_0, zb_n, out_bey, s_rF])
    · skip
      refine zv_aload_n dX8_readFault_13 rfl ?_
      refine zv_iload_n dX8_readFault_14 rfl ?_
      refine zM_call hn zm_X8_97 zkyX8_isNumbers rfl (cM_isNumbers hn (rk_i (hq (by simp_all)))) rfl rfl (Nat.le_of_ble_eq_true rfl) (by decide) dX8_readFault_15 ?_
      refine zv_if_ne (tgt := 25) dX8_readFault_18 (by decide) (fun c18 => ?_) (fun c18 => ?_)
      · skip
        refine zv_iload_n dX8_readFault_25 rfl ?_
        refine zv_i2l dX8_readFault_26 ?_
        refine zv_lconstv (v := 0) dX8_readFault_27 (by decide) ?_
        refine zv_aload_n dX8_readFault_28 rfl ?_
        refine zM_get hn zf_X8_23_6 rfl dX8_readFault_29 ?_
        refine zv_iload_n dX8_readFault_32 rfl ?_
        refine zM_ald10 hn (by first | with_reducible assumption | with_reducible exact hr | with_reducible exact rk_i (hq (by assumption)) | with_reducible exact rk_i (hq (by simp_all)) | with_reducible exact rk_p (hq (by simp_all)) _ (by simp_all)) dX8_readFault_33 ?_
        refine zv_iconstv (v := 1) dX8_readFault_34 (by decide) ?_
        refine zv_isub dX8_readFault_35 ?_
        refine zv_i2l dX8_readFault_36 ?_
        refine zv_callSq (mc := 0) (ms := 0) zm_X8_42 zkyX8_beyond cM_beyond rfl rfl (Nat.le_of_ble_eq_true rfl) (by decide) dX8_readFault_37 ?_
        refine zv_if_eq (tgt := 47) dX8_readFault_40 (by decide) (fun c40 => ?_) (fun c40 => ?_)
        · skip
          refine zv_aload_n dX8_readFault_47 rfl ?_
          refine zM_get hn zf_X8_20_6 rfl dX8_readFault_48 ?_
          refine zv_iload_n dX8_readFault_51 rfl ?_
          refine zM_ald9 hn (by first | with_reducible assumption | with_reducible exact hr | with_reducible exact rk_i (hq (by assumption)) | with_reducible exact rk_i (hq (by simp_all)) | with_reducible exact rk_p (hq (by simp_all)) _ (by simp_all)) dX8_readFault_52 ?_
          refine zv_iload dX8_readFault_53 rfl ?_
          refine zv_callSq (mc := 0) (ms := 0) zm_X8_100 zkyX8_goes cM_goes rfl rfl (Nat.le_of_ble_eq_true rfl) (by decide) dX8_readFault_55 ?_
          refine zv_if_eq (tgt := 65) dX8_readFault_58 (by decide) (fun c58 => ?_) (fun c58 => ?_)
          · skip
            refine zv_iconstv (v := 2) dX8_readFault_65 (by decide) ?_
            exact zv_ireturn dX8_readFault_66 rfl (by refine ⟨?_, ?_⟩ <;> simp_all [-Int32.not_lt, -Int32.not_le, ← Int32.not_lt, xT, xW, xK, xS, xF, xP, zb_0, zb_n, out_bey, s_rF])
          · skip
            refine zv_iconstv (v := 0) dX8_readFault_61 (by decide) ?_
            refine zv_goto (tgt := 66) dX8_readFault_62 (by decide) ?_
            exact zv_ireturn dX8_readFault_66 rfl (by refine ⟨?_, ?_⟩ <;> simp_all [-Int32.not_lt, -Int32.not_le, ← Int32.not_lt, xT, xW, xK, xS, xF, xP, zb_0, zb_n, out_bey, s_rF])
        · skip
          refine zv_iconstv (v := 3) dX8_readFault_43 (by decide) ?_
          refine zv_goto (tgt := 66) dX8_readFault_44 (by decide) ?_
          exact zv_ireturn dX8_readFault_66 rfl (by refine ⟨?_, ?_⟩ <;> simp_all [-Int32.not_lt, -Int32.not_le, ← Int32.not_lt, xT, xW, xK, xS, xF, xP, zb_0, zb_n, out_bey, s_rF])
      · skip
        refine zv_iconstv (v := 2) dX8_readFault_21 (by decide) ?_
        refine zv_goto (tgt := 66) dX8_readFault_22 (by decide) ?_
        exact zv_ireturn dX8_readFault_66 rfl (by refine ⟨?_, ?_⟩ <;> simp_all [-Int32.not_lt, -Int32.not_le, ← Int32.not_lt, xT, xW, xK, xS, xF, xP, zb_0, zb_n, out_bey, s_rF])
  · skip
    refine zv_iconstv (v := 1) dX8_readFault_4 (by decide) ?_
    refine zv_goto (tgt := 66) dX8_readFault_5 (by decide) ?_
    exact zv_ireturn dX8_readFault_66 rfl (by refine ⟨?_, ?_⟩ <;> simp_all [-Int32.not_lt, -Int32.not_le, ← Int32.not_lt, xT, xW, xK, xS, xF, xP, zb_0, zb_n, out_bey, s_rF])
set_option maxRecDepth 20000 in
set_option maxHeartbeats 4000000 in
theorem cM_writeFault {G : zh_G} {l : Launch} {g : Nat → va_E} {nn : Nat} {σ : sg} (hn : zg_B G + 28 ≤ nn) {t q i of : Int32} (hq : t = 3 → rk σ q) : zc G l yX8_writeFault cX8_writeFault 5 (some .int) 1 [.ref (zg_B G + 18), .int t, .int q, .int i, .int of] (ms G g σ, nn) 0 0 (fun o h' => o = some (.int (s_wF σ t q i of)) ∧ h' = (ms G g σ, nn)) := by
  refine zc.of (by decide) (Nat.le_of_ble_eq_true rfl) ?_
  refine zv_iload_n dX8_writeFault_0 rfl ?_
  refine zv_if_ne (tgt := 8) dX8_writeFault_1 (by decide) (fun c1 => ?_) (fun c1 => ?_)
  · skip
    refine zv_iload_n dX8_writeFault_8 rfl ?_
    refine zv_iconstv (v := 3) dX8_writeFault_9 (by decide) ?_
    refine zv_icmp_ne (tgt := 21) dX8_writeFault_10 (by decide) (fun c10 => ?_) (fun c10 => ?_)
    · skip
      refine zv_iconstv (v := 2) dX8_writeFault_21 (by decide) ?_
      refine zv_goto (tgt := 66) dX8_writeFault_22 (by decide) ?_
      exact zv_ireturn dX8_writeFault_66 rfl (by refine ⟨?_, ?_⟩ <;> simp_all [-Int32.not_lt, -Int32.not_le, ← Int32.not_lt, xT, xW, xK, xS, xF, xP, zb_0, zb_n, out_bey, s_wF])
    · skip
      refine zv_aload_n dX8_writeFault_13 rfl ?_
      refine zv_iload_n dX8_writeFault_14 rfl ?_
      refine zM_call hn zm_X8_97 zkyX8_isNumbers rfl (cM_isNumbers hn (rk_i (hq (by simp_all)))) rfl rfl (Nat.le_of_ble_eq_true rfl) (by decide) dX8_writeFault_15 ?_
      refine zv_if_ne (tgt := 25) dX8_writeFault_18 (by decide) (fun c18 => ?_) (fun c18 => ?_)
      · skip
        refine zv_iload_n dX8_writeFault_25 rfl ?_
        refine zv_i2l dX8_writeFault_26 ?_
        refine zv_lconstv (v := 0) dX8_writeFault_27 (by decide) ?_
        refine zv_aload_n dX8_writeFault_28 rfl ?_
        refine zM_get hn zf_X8_23_6 rfl dX8_writeFault_29 ?_
        refine zv_iload_n dX8_writeFault_32 rfl ?_
        refine zM_ald10 hn (by first | with_reducible assumption | with_reducible exact hr | with_reducible exact rk_i (hq (by assumption)) | with_reducible exact rk_i (hq (by simp_all)) | with_reducible exact rk_p (hq (by simp_all)) _ (by simp_all)) dX8_writeFault_33 ?_
        refine zv_iconstv (v := 1) dX8_writeFault_34 (by decide) ?_
        refine zv_isub dX8_writeFault_35 ?_
        refine zv_i2l dX8_writeFault_36 ?_
        refine zv_callSq (mc := 0) (ms := 0) zm_X8_42 zkyX8_beyond cM_beyond rfl rfl (Nat.le_of_ble_eq_true rfl) (by decide) dX8_writeFault_37 ?_
        refine zv_if_eq (tgt := 47) dX8_writeFault_40 (by decide) (fun c40 => ?_) (fun c40 => ?_)
        · skip
          refine zv_iload dX8_writeFault_47 rfl ?_
          refine zv_aload_n dX8_writeFault_49 rfl ?_
          refine zM_get hn zf_X8_20_6 rfl dX8_writeFault_50 ?_
          refine zv_iload_n dX8_writeFault_53 rfl ?_
          refine zM_ald9 hn (by first | with_reducible assumption | with_reducible exact hr | with_reducible exact rk_i (hq (by assumption)) | with_reducible exact rk_i (hq (by simp_all)) | with_reducible exact rk_p (hq (by simp_all)) _ (by simp_all)) dX8_writeFault_54 ?_
          refine zv_callSq (mc := 0) (ms := 0) zm_X8_100 zkyX8_goes cM_goes rfl rfl (Nat.le_of_ble_eq_true rfl) (by decide) dX8_writeFault_55 ?_
          refine zv_if_eq (tgt := 65) dX8_writeFault_58 (by decide) (fun c58 => ?_) (fun c58 => ?_)
          · skip
            refine zv_iconstv (v := 2) dX8_writeFault_65 (by decide) ?_
            exact zv_ireturn dX8_writeFault_66 rfl (by refine ⟨?_, ?_⟩ <;> simp_all [-Int32.not_lt, -Int32.not_le, ← Int32.not_lt, xT, xW, xK, xS, xF, xP, zb_0, zb_n, out_bey, s_wF])
          · skip
            refine zv_iconstv (v := 0) dX8_writeFault_61 (by decide) ?_
            refine zv_goto (tgt := 66) dX8_writeFault_62 (by decide) ?_
            exact zv_ireturn dX8_writeFault_66 rfl (by refine ⟨?_, ?_⟩ <;> simp_all [-Int32.not_lt, -Int32.not_le, ← Int32.not_lt, xT, xW, xK, xS, xF, xP, zb_0, zb_n, out_bey, s_wF])
        · skip
          refine zv_iconstv (v := 3) dX8_writeFault_43 (by decide) ?_
          refine zv_goto (tgt := 66) dX8_writeFault_44 (by decide) ?_
          exact zv_ireturn dX8_writeFault_66 rfl (by refine ⟨?_, ?_⟩ <;> simp_all [-Int32.not_lt, -Int32.not_le, ← Int32.not_lt, xT, xW, xK, xS, xF, xP, zb_0, zb_n, out_bey, s_wF])
      · skip
        refine zv_iconstv (v := 2) dX8_writeFault_21 (by decide) ?_
        refine zv_goto (tgt := 66) dX8_writeFault_22 (by decide) ?_
        exact zv_ireturn dX8_writeFault_66 rfl (by refine ⟨?_, ?_⟩ <;> simp_all [-Int32.not_lt, -Int32.not_le, ← Int32.not_lt, xT, xW, xK, xS, xF, xP, zb_0, zb_n, out_bey, s_wF])
  · skip
    refine zv_iconstv (v := 1) dX8_writeFault_4 (by decide) ?_
    refine zv_goto (tgt := 66) dX8_writeFault_5 (by decide) ?_
    exact zv_ireturn dX8_writeFault_66 rfl (by refine ⟨?_, ?_⟩ <;> simp_all [-Int32.not_lt, -Int32.not_le, ← Int32.not_lt, xT, xW, xK, xS, xF, xP, zb_0, zb_n, out_bey, s_wF])
set_option maxRecDepth 20000 in
set_option maxHeartbeats 4000000 in
theorem cM_unfit {G : zh_G} {l : Launch} {g : Nat → va_E} {nn : Nat} {σ : sg} (hn : zg_B G + 28 ≤ nn) {q : Int32} (hr : vp_in q 5000) (hw : σ.1 2 = 2 → vp_in (σ.1 5) 41) : zc G l yX8_unfit cX8_unfit 3 (some .boolean) 1 [.ref (zg_B G + 18), .int q] (ms G g σ, nn) 0 0 (fun o h' => o = some (.int (zb (s_unfit σ q))) ∧ h' = (ms G g σ, nn)) := by
  refine zc.of (by decide) (Nat.le_of_ble_eq_true rfl) ?_
  refine zv_aload_n dX8_unfit_0 rfl ?_
  refine zM_get hn zf_X8_20_6 rfl dX8_unfit_1 ?_
  refine zv_iload_n dX8_unfit_4 rfl ?_
  refine zM_ald9 hn (by first | with_reducible assumption | with_reducible exact hr | with_reducible exact hw (by assumption) | with_reducible exact hw (by simp_all)) dX8_unfit_5 ?_
  refine zv_istore_n dX8_unfit_6 (by decide) ?_
  refine zv_iload_n dX8_unfit_7 rfl ?_
  refine zv_bipushv (v := 8) dX8_unfit_8 (by decide) ?_
  refine zv_icmp_ge (tgt := 38) dX8_unfit_10 (by decide) (fun c10 => ?_) (fun c10 => ?_)
  · skip
    refine zv_aload_n dX8_unfit_38 rfl ?_
    refine zM_get hn zf_X8_69_6 rfl dX8_unfit_39 ?_
    refine zv_iconstv (v := 1) dX8_unfit_42 (by decide) ?_
    refine zv_icmp_eq (tgt := 92) dX8_unfit_43 (by decide) (fun c43 => ?_) (fun c43 => ?_)
    · skip
      refine zv_iconstv (v := 1) dX8_unfit_92 (by decide) ?_
      refine zv_goto (tgt := 97) dX8_unfit_93 (by decide) ?_
      exact zv_zreturn dX8_unfit_97 rfl (by decide) (by refine ⟨?_, ?_⟩ <;> simp_all [-Int32.not_lt, -Int32.not_le, ← Int32.not_lt, xT, xW, xK, xS, xF, xP, zb_0, zb_n, out_bey, s_unfit, zb])
    · skip
      refine zv_aload_n dX8_unfit_46 rfl ?_
      refine zM_get hn zf_X8_69_6 rfl dX8_unfit_47 ?_
      refine zv_iconstv (v := 2) dX8_unfit_50 (by decide) ?_
      refine zv_icmp_ne (tgt := 78) dX8_unfit_51 (by decide) (fun c51 => ?_) (fun c51 => ?_)
      · skip
        refine zv_aload_n dX8_unfit_78 rfl ?_
        refine zM_get hn zf_X8_69_6 rfl dX8_unfit_79 ?_
        refine zv_iconstv (v := 3) dX8_unfit_82 (by decide) ?_
        refine zv_icmp_ne (tgt := 96) dX8_unfit_83 (by decide) (fun c83 => ?_) (fun c83 => ?_)
        · skip
          refine zv_iconstv (v := 0) dX8_unfit_96 (by decide) ?_
          exact zv_zreturn dX8_unfit_97 rfl (by decide) (by refine ⟨?_, ?_⟩ <;> simp_all [-Int32.not_lt, -Int32.not_le, ← Int32.not_lt, xT, xW, xK, xS, xF, xP, zb_0, zb_n, out_bey, s_unfit, zb])
        · skip
          refine zv_iload_n dX8_unfit_86 rfl ?_
          refine zv_bipushv (v := 10) dX8_unfit_87 (by decide) ?_
          refine zv_icmp_eq (tgt := 96) dX8_unfit_89 (by decide) (fun c89 => ?_) (fun c89 => ?_)
          · skip
            refine zv_iconstv (v := 0) dX8_unfit_96 (by decide) ?_
            exact zv_zreturn dX8_unfit_97 rfl (by decide) (by refine ⟨?_, ?_⟩ <;> simp_all [-Int32.not_lt, -Int32.not_le, ← Int32.not_lt, xT, xW, xK, xS, xF, xP, zb_0, zb_n, out_bey, s_unfit, zb])
          · skip
            refine zv_iconstv (v := 1) dX8_unfit_92 (by decide) ?_
            refine zv_goto (tgt := 97) dX8_unfit_93 (by decide) ?_
            exact zv_zreturn dX8_unfit_97 rfl (by decide) (by refine ⟨?_, ?_⟩ <;> simp_all [-Int32.not_lt, -Int32.not_le, ← Int32.not_lt, xT, xW, xK, xS, xF, xP, zb_0, zb_n, out_bey, s_unfit, zb])
      · skip
        refine zv_iload_n dX8_unfit_54 rfl ?_
        refine zv_bipushv (v := 10) dX8_unfit_55 (by decide) ?_
        refine zv_icmp_eq (tgt := 92) dX8_unfit_57 (by decide) (fun c57 => ?_) (fun c57 => ?_)
        · skip
          refine zv_iconstv (v := 1) dX8_unfit_92 (by decide) ?_
          refine zv_goto (tgt := 97) dX8_unfit_93 (by decide) ?_
          exact zv_zreturn dX8_unfit_97 rfl (by decide) (by refine ⟨?_, ?_⟩ <;> simp_all [-Int32.not_lt, -Int32.not_le, ← Int32.not_lt, xT, xW, xK, xS, xF, xP, zb_0, zb_n, out_bey, s_unfit, zb])
        · skip
          refine zv_iload_n dX8_unfit_60 rfl ?_
          refine zv_bipushv (v := 9) dX8_unfit_61 (by decide) ?_
          refine zv_icmp_ne (tgt := 78) dX8_unfit_63 (by decide) (fun c63 => ?_) (fun c63 => ?_)
          · skip
            refine zv_aload_n dX8_unfit_78 rfl ?_
            refine zM_get hn zf_X8_69_6 rfl dX8_unfit_79 ?_
            refine zv_iconstv (v := 3) dX8_unfit_82 (by decide) ?_
            refine zv_icmp_ne (tgt := 96) dX8_unfit_83 (by decide) (fun c83 => ?_) (fun c83 => ?_)
            · skip
              refine zv_iconstv (v := 0) dX8_unfit_96 (by decide) ?_
              exact zv_zreturn dX8_unfit_97 rfl (by decide) (by refine ⟨?_, ?_⟩ <;> simp_all [-Int32.not_lt, -Int32.not_le, ← Int32.not_lt, xT, xW, xK, xS, xF, xP, zb_0, zb_n, out_bey, s_unfit, zb])
            · skip
              refine zv_iload_n dX8_unfit_86 rfl ?_
              refine zv_bipushv (v := 10) dX8_unfit_87 (by decide) ?_
              refine zv_icmp_eq (tgt := 96) dX8_unfit_89 (by decide) (fun c89 => ?_) (fun c89 => ?_)
              · skip
                refine zv_iconstv (v := 0) dX8_unfit_96 (by decide) ?_
                exact zv_zreturn dX8_unfit_97 rfl (by decide) (by refine ⟨?_, ?_⟩ <;> simp_all [-Int32.not_lt, -Int32.not_le, ← Int32.not_lt, xT, xW, xK, xS, xF, xP, zb_0, zb_n, out_bey, s_unfit, zb])
              · skip
                refine zv_iconstv (v := 1) dX8_unfit_92 (by decide) ?_
                refine zv_goto (tgt := 97) dX8_unfit_93 (by decide) ?_
                exact zv_zreturn dX8_unfit_97 rfl (by decide) (by refine ⟨?_, ?_⟩ <;> simp_all [-Int32.not_lt, -Int32.not_le, ← Int32.not_lt, xT, xW, xK, xS, xF, xP, zb_0, zb_n, out_bey, s_unfit, zb])
          · skip
            refine zv_aload_n dX8_unfit_66 rfl ?_
            refine zM_get hn zf_X8_16_6 rfl dX8_unfit_67 ?_
            refine zv_aload_n dX8_unfit_70 rfl ?_
            refine zM_get hn zf_X8_72_6 rfl dX8_unfit_71 ?_
            refine zM_ald7 hn (by first | with_reducible assumption | with_reducible exact hr | with_reducible exact hw (by assumption) | with_reducible exact hw (by simp_all)) dX8_unfit_74 ?_
            refine zv_if_eq (tgt := 92) dX8_unfit_75 (by decide) (fun c75 => ?_) (fun c75 => ?_)
            · skip
              refine zv_iconstv (v := 1) dX8_unfit_92 (by decide) ?_
              refine zv_goto (tgt := 97) dX8_unfit_93 (by decide) ?_
              exact zv_zreturn dX8_unfit_97 rfl (by decide) (by refine ⟨?_, ?_⟩ <;> simp_all [-Int32.not_lt, -Int32.not_le, ← Int32.not_lt, xT, xW, xK, xS, xF, xP, zb_0, zb_n, out_bey, s_unfit, zb])
            · skip
              refine zv_aload_n dX8_unfit_78 rfl ?_
              refine zM_get hn zf_X8_69_6 rfl dX8_unfit_79 ?_
              refine zv_iconstv (v := 3) dX8_unfit_82 (by decide) ?_
              refine zv_icmp_ne (tgt := 96) dX8_unfit_83 (by decide) (fun c83 => ?_) (fun c83 => ?_)
              · skip
                refine zv_iconstv (v := 0) dX8_unfit_96 (by decide) ?_
                exact zv_zreturn dX8_unfit_97 rfl (by decide) (by refine ⟨?_, ?_⟩ <;> simp_all [-Int32.not_lt, -Int32.not_le, ← Int32.not_lt, xT, xW, xK, xS, xF, xP, zb_0, zb_n, out_bey, s_unfit, zb])
              · skip
                refine zv_iload_n dX8_unfit_86 rfl ?_
                refine zv_bipushv (v := 10) dX8_unfit_87 (by decide) ?_
                refine zv_icmp_eq (tgt := 96) dX8_unfit_89 (by decide) (fun c89 => ?_) (fun c89 => ?_)
                · skip
                  refine zv_iconstv (v := 0) dX8_unfit_96 (by decide) ?_
                  exact zv_zreturn dX8_unfit_97 rfl (by decide) (by refine ⟨?_, ?_⟩ <;> simp_all [-Int32.not_lt, -Int32.not_le, ← Int32.not_lt, xT, xW, xK, xS, xF, xP, zb_0, zb_n, out_bey, s_unfit, zb])
                · skip
                  refine zv_iconstv (v := 1) dX8_unfit_92 (by decide) ?_
                  refine zv_goto (tgt := 97) dX8_unfit_93 (by decide) ?_
                  exact zv_zreturn dX8_unfit_97 rfl (by decide) (by refine ⟨?_, ?_⟩ <;> simp_all [-Int32.not_lt, -Int32.not_le, ← Int32.not_lt, xT, xW, xK, xS, xF, xP, zb_0, zb_n, out_bey, s_unfit, zb])
  · skip
    refine zv_aload_n dX8_unfit_13 rfl ?_
    refine zM_get hn zf_X8_69_6 rfl dX8_unfit_14 ?_
    refine zv_iconstv (v := 1) dX8_unfit_17 (by decide) ?_
    refine zv_icmp_ne (tgt := 32) dX8_unfit_18 (by decide) (fun c18 => ?_) (fun c18 => ?_)
    · skip
      refine zv_iconstv (v := 1) dX8_unfit_32 (by decide) ?_
      refine zv_goto (tgt := 37) dX8_unfit_33 (by decide) ?_
      exact zv_zreturn dX8_unfit_37 rfl (by decide) (by refine ⟨?_, ?_⟩ <;> simp_all [-Int32.not_lt, -Int32.not_le, ← Int32.not_lt, xT, xW, xK, xS, xF, xP, zb_0, zb_n, out_bey, s_unfit, zb])
    · skip
      refine zv_aload_n dX8_unfit_21 rfl ?_
      refine zM_get hn zf_X8_75_6 rfl dX8_unfit_22 ?_
      refine zv_iload_n dX8_unfit_25 rfl ?_
      refine zv_callSq (mc := 0) (ms := 0) zm_X8_100 zkyX8_goes cM_goes rfl rfl (Nat.le_of_ble_eq_true rfl) (by decide) dX8_unfit_26 ?_
      refine zv_if_ne (tgt := 36) dX8_unfit_29 (by decide) (fun c29 => ?_) (fun c29 => ?_)
      · skip
        refine zv_iconstv (v := 0) dX8_unfit_36 (by decide) ?_
        exact zv_zreturn dX8_unfit_37 rfl (by decide) (by refine ⟨?_, ?_⟩ <;> simp_all [-Int32.not_lt, -Int32.not_le, ← Int32.not_lt, xT, xW, xK, xS, xF, xP, zb_0, zb_n, out_bey, s_unfit, zb])
      · skip
        refine zv_iconstv (v := 1) dX8_unfit_32 (by decide) ?_
        refine zv_goto (tgt := 37) dX8_unfit_33 (by decide) ?_
        exact zv_zreturn dX8_unfit_37 rfl (by decide) (by refine ⟨?_, ?_⟩ <;> simp_all [-Int32.not_lt, -Int32.not_le, ← Int32.not_lt, xT, xW, xK, xS, xF, xP, zb_0, zb_n, out_bey, s_unfit, zb])
set_option maxRecDepth 20000 in
set_option maxHeartbeats 4000000 in
theorem cM_sizeFault {G : zh_G} {l : Launch} {g : Nat → va_E} {nn : Nat} {σ : sg} (hn : zg_B G + 28 ≤ nn) {r : Int32} (hr : vp_in r 10) : zc G l yX8_sizeFault cX8_sizeFault 2 (some .int) 0 [.ref (zg_B G + 18), .int r] (ms G g σ, nn) 0 0 (fun o h' => o = some (.int (s_szF σ r)) ∧ h' = (ms G g σ, nn)) := by
  refine zc.of (by decide) (Nat.le_of_ble_eq_true rfl) ?_
  refine zv_aload_n dX8_sizeFault_0 rfl ?_
  refine zM_get hn zf_X8_7_6 rfl dX8_sizeFault_1 ?_
  refine zv_iload_n dX8_sizeFault_4 rfl ?_
  refine zM_ald0 hn (by first | with_reducible assumption | with_reducible exact hr | with_reducible exact rk_i (hq (by assumption)) | with_reducible exact rk_i (hq (by simp_all)) | with_reducible exact rk_p (hq (by simp_all)) _ (by simp_all)) dX8_sizeFault_5 ?_
  refine zv_if_ne (tgt := 13) dX8_sizeFault_6 (by decide) (fun c6 => ?_) (fun c6 => ?_)
  · skip
    refine zv_aload_n dX8_sizeFault_13 rfl ?_
    refine zM_get hn zf_X8_7_6 rfl dX8_sizeFault_14 ?_
    refine zv_iload_n dX8_sizeFault_17 rfl ?_
    refine zM_ald0 hn (by first | with_reducible assumption | with_reducible exact hr | with_reducible exact rk_i (hq (by assumption)) | with_reducible exact rk_i (hq (by simp_all)) | with_reducible exact rk_p (hq (by simp_all)) _ (by simp_all)) dX8_sizeFault_18 ?_
    refine zv_iconstv (v := 3) dX8_sizeFault_19 (by decide) ?_
    refine zv_icmp_eq (tgt := 27) dX8_sizeFault_20 (by decide) (fun c20 => ?_) (fun c20 => ?_)
    · skip
      refine zv_iconstv (v := 0) dX8_sizeFault_27 (by decide) ?_
      exact zv_ireturn dX8_sizeFault_28 rfl (by refine ⟨?_, ?_⟩ <;> simp_all [-Int32.not_lt, -Int32.not_le, ← Int32.not_lt, xT, xW, xK, xS, xF, xP, zb_0, zb_n, out_bey, s_szF])
    · skip
      refine zv_iconstv (v := 2) dX8_sizeFault_23 (by decide) ?_
      refine zv_goto (tgt := 28) dX8_sizeFault_24 (by decide) ?_
      exact zv_ireturn dX8_sizeFault_28 rfl (by refine ⟨?_, ?_⟩ <;> simp_all [-Int32.not_lt, -Int32.not_le, ← Int32.not_lt, xT, xW, xK, xS, xF, xP, zb_0, zb_n, out_bey, s_szF])
  · skip
    refine zv_iconstv (v := 1) dX8_sizeFault_9 (by decide) ?_
    refine zv_goto (tgt := 28) dX8_sizeFault_10 (by decide) ?_
    exact zv_ireturn dX8_sizeFault_28 rfl (by refine ⟨?_, ?_⟩ <;> simp_all [-Int32.not_lt, -Int32.not_le, ← Int32.not_lt, xT, xW, xK, xS, xF, xP, zb_0, zb_n, out_bey, s_szF])
set_option maxRecDepth 20000 in
set_option maxHeartbeats 4000000 in
theorem cM_setFault {G : zh_G} {l : Launch} {g : Nat → va_E} {nn : Nat} {σ : sg} (hn : zg_B G + 28 ≤ nn) {r i : Int32} (hr : vp_in r 10) (hq : xT σ r = 3 → rk σ (xW σ r)) (hw : σ.1 2 = 2 → vp_in (σ.1 5) 41) : zc G l yX8_setFault cX8_setFault 4 (some .int) 2 [.ref (zg_B G + 18), .int r, .int i] (ms G g σ, nn) 0 0 (fun o h' => o = some (.int (s_sF σ r i)) ∧ h' = (ms G g σ, nn)) := by
  refine zc.of (by decide) (Nat.le_of_ble_eq_true rfl) ?_
  refine zv_aload_n dX8_setFault_0 rfl ?_
  refine zM_get hn zf_X8_13_6 rfl dX8_setFault_1 ?_
  refine zv_iload_n dX8_setFault_4 rfl ?_
  refine zM_ald1 hn (by first | with_reducible assumption | with_reducible exact hr | with_reducible exact rk_i (hq (by assumption)) | with_reducible exact rk_i (hq (by simp_all)) | with_reducible exact rk_p (hq (by simp_all)) _ (by simp_all)) dX8_setFault_5 ?_
  refine zv_istore_n dX8_setFault_6 (by decide) ?_
  refine zv_aload_n dX8_setFault_7 rfl ?_
  refine zM_get hn zf_X8_7_6 rfl dX8_setFault_8 ?_
  refine zv_iload_n dX8_setFault_11 rfl ?_
  refine zM_ald0 hn (by first | with_reducible assumption | with_reducible exact hr | with_reducible exact rk_i (hq (by assumption)) | with_reducible exact rk_i (hq (by simp_all)) | with_reducible exact rk_p (hq (by simp_all)) _ (by simp_all)) dX8_setFault_12 ?_
  refine zv_iconstv (v := 3) dX8_setFault_13 (by decide) ?_
  refine zv_icmp_eq (tgt := 32) dX8_setFault_14 (by decide) (fun c14 => ?_) (fun c14 => ?_)
  · skip
    refine zv_aload_n dX8_setFault_32 rfl ?_
    refine zv_iload_n dX8_setFault_33 rfl ?_
    refine zM_call hn zm_X8_97 zkyX8_isNumbers rfl (cM_isNumbers hn (rk_i (hq (by simp_all)))) rfl rfl (Nat.le_of_ble_eq_true rfl) (by decide) dX8_setFault_34 ?_
    refine zv_if_eq (tgt := 51) dX8_setFault_37 (by decide) (fun c37 => ?_) (fun c37 => ?_)
    · skip
      refine zv_iload_n dX8_setFault_51 rfl ?_
      refine zv_i2l dX8_setFault_52 ?_
      refine zv_lconstv (v := 0) dX8_setFault_53 (by decide) ?_
      refine zv_aload_n dX8_setFault_54 rfl ?_
      refine zM_get hn zf_X8_23_6 rfl dX8_setFault_55 ?_
      refine zv_iload_n dX8_setFault_58 rfl ?_
      refine zM_ald10 hn (by first | with_reducible assumption | with_reducible exact hr | with_reducible exact rk_i (hq (by assumption)) | with_reducible exact rk_i (hq (by simp_all)) | with_reducible exact rk_p (hq (by simp_all)) _ (by simp_all)) dX8_setFault_59 ?_
      refine zv_iconstv (v := 1) dX8_setFault_60 (by decide) ?_
      refine zv_isub dX8_setFault_61 ?_
      refine zv_i2l dX8_setFault_62 ?_
      refine zv_callSq (mc := 0) (ms := 0) zm_X8_42 zkyX8_beyond cM_beyond rfl rfl (Nat.le_of_ble_eq_true rfl) (by decide) dX8_setFault_63 ?_
      refine zv_if_eq (tgt := 73) dX8_setFault_66 (by decide) (fun c66 => ?_) (fun c66 => ?_)
      · skip
        refine zv_aload_n dX8_setFault_73 rfl ?_
        refine zv_iload_n dX8_setFault_74 rfl ?_
        refine zM_call hn zm_X8_104 zkyX8_unfit rfl (cM_unfit hn (rk_i (hq (by simp_all))) hw) rfl rfl (Nat.le_of_ble_eq_true rfl) (by decide) dX8_setFault_75 ?_
        refine zv_if_eq (tgt := 85) dX8_setFault_78 (by decide) (fun c78 => ?_) (fun c78 => ?_)
        · skip
          refine zv_iconstv (v := 0) dX8_setFault_85 (by decide) ?_
          exact zv_ireturn dX8_setFault_86 rfl (by refine ⟨?_, ?_⟩ <;> simp_all [-Int32.not_lt, -Int32.not_le, ← Int32.not_lt, xT, xW, xK, xS, xF, xP, zb_0, zb_n, out_bey, s_sF])
        · skip
          refine zv_iconstv (v := 2) dX8_setFault_81 (by decide) ?_
          refine zv_goto (tgt := 86) dX8_setFault_82 (by decide) ?_
          exact zv_ireturn dX8_setFault_86 rfl (by refine ⟨?_, ?_⟩ <;> simp_all [-Int32.not_lt, -Int32.not_le, ← Int32.not_lt, xT, xW, xK, xS, xF, xP, zb_0, zb_n, out_bey, s_sF])
      · skip
        refine zv_iconstv (v := 3) dX8_setFault_69 (by decide) ?_
        refine zv_goto (tgt := 86) dX8_setFault_70 (by decide) ?_
        exact zv_ireturn dX8_setFault_86 rfl (by refine ⟨?_, ?_⟩ <;> simp_all [-Int32.not_lt, -Int32.not_le, ← Int32.not_lt, xT, xW, xK, xS, xF, xP, zb_0, zb_n, out_bey, s_sF])
    · skip
      refine zv_aload_n dX8_setFault_40 rfl ?_
      refine zM_get hn zf_X8_69_6 rfl dX8_setFault_41 ?_
      refine zv_if_ne (tgt := 51) dX8_setFault_44 (by decide) (fun c44 => ?_) (fun c44 => ?_)
      · skip
        refine zv_iload_n dX8_setFault_51 rfl ?_
        refine zv_i2l dX8_setFault_52 ?_
        refine zv_lconstv (v := 0) dX8_setFault_53 (by decide) ?_
        refine zv_aload_n dX8_setFault_54 rfl ?_
        refine zM_get hn zf_X8_23_6 rfl dX8_setFault_55 ?_
        refine zv_iload_n dX8_setFault_58 rfl ?_
        refine zM_ald10 hn (by first | with_reducible assumption | with_reducible exact hr | with_reducible exact rk_i (hq (by assumption)) | with_reducible exact rk_i (hq (by simp_all)) | with_reducible exact rk_p (hq (by simp_all)) _ (by simp_all)) dX8_setFault_59 ?_
        refine zv_iconstv (v := 1) dX8_setFault_60 (by decide) ?_
        refine zv_isub dX8_setFault_61 ?_
        refine zv_i2l dX8_setFault_62 ?_
        refine zv_callSq (mc := 0) (ms := 0) zm_X8_42 zkyX8_beyond cM_beyond rfl rfl (Nat.le_of_ble_eq_true rfl) (by decide) dX8_setFault_63 ?_
        refine zv_if_eq (tgt := 73) dX8_setFault_66 (by decide) (fun c66 => ?_) (fun c66 => ?_)
        · skip
          refine zv_aload_n dX8_setFault_73 rfl ?_
          refine zv_iload_n dX8_setFault_74 rfl ?_
          refine zM_call hn zm_X8_104 zkyX8_unfit rfl (cM_unfit hn (rk_i (hq (by simp_all))) hw) rfl rfl (Nat.le_of_ble_eq_true rfl) (by decide) dX8_setFault_75 ?_
          refine zv_if_eq (tgt := 85) dX8_setFault_78 (by decide) (fun c78 => ?_) (fun c78 => ?_)
          · skip
            refine zv_iconstv (v := 0) dX8_setFault_85 (by decide) ?_
            exact zv_ireturn dX8_setFault_86 rfl (by refine ⟨?_, ?_⟩ <;> simp_all [-Int32.not_lt, -Int32.not_le, ← Int32.not_lt, xT, xW, xK, xS, xF, xP, zb_0, zb_n, out_bey, s_sF])
          · skip
            refine zv_iconstv (v := 2) dX8_setFault_81 (by decide) ?_
            refine zv_goto (tgt := 86) dX8_setFault_82 (by decide) ?_
            exact zv_ireturn dX8_setFault_86 rfl (by refine ⟨?_, ?_⟩ <;> simp_all [-Int32.not_lt, -Int32.not_le, ← Int32.not_lt, xT, xW, xK, xS, xF, xP, zb_0, zb_n, out_bey, s_sF])
        · skip
          refine zv_iconstv (v := 3) dX8_setFault_69 (by decide) ?_
          refine zv_goto (tgt := 86) dX8_setFault_70 (by decide) ?_
          exact zv_ireturn dX8_setFault_86 rfl (by refine ⟨?_, ?_⟩ <;> simp_all [-Int32.not_lt, -Int32.not_le, ← Int32.not_lt, xT, xW, xK, xS, xF, xP, zb_0, zb_n, out_bey, s_sF])
      · skip
        refine zv_iconstv (v := 2) dX8_setFault_47 (by decide) ?_
        refine zv_goto (tgt := 86) dX8_setFault_48 (by decide) ?_
        exact zv_ireturn dX8_setFault_86 rfl (by refine ⟨?_, ?_⟩ <;> simp_all [-Int32.not_lt, -Int32.not_le, ← Int32.not_lt, xT, xW, xK, xS, xF, xP, zb_0, zb_n, out_bey, s_sF])
  · skip
    refine zv_aload_n dX8_setFault_17 rfl ?_
    refine zM_get hn zf_X8_7_6 rfl dX8_setFault_18 ?_
    refine zv_iload_n dX8_setFault_21 rfl ?_
    refine zM_ald0 hn (by first | with_reducible assumption | with_reducible exact hr | with_reducible exact rk_i (hq (by assumption)) | with_reducible exact rk_i (hq (by simp_all)) | with_reducible exact rk_p (hq (by simp_all)) _ (by simp_all)) dX8_setFault_22 ?_
    refine zv_if_ne (tgt := 30) dX8_setFault_23 (by decide) (fun c23 => ?_) (fun c23 => ?_)
    · skip
      refine zv_iconstv (v := 2) dX8_setFault_30 (by decide) ?_
      exact zv_ireturn dX8_setFault_31 rfl (by refine ⟨?_, ?_⟩ <;> simp_all [-Int32.not_lt, -Int32.not_le, ← Int32.not_lt, xT, xW, xK, xS, xF, xP, zb_0, zb_n, out_bey, s_sF])
    · skip
      refine zv_iconstv (v := 1) dX8_setFault_26 (by decide) ?_
      refine zv_goto (tgt := 31) dX8_setFault_27 (by decide) ?_
      exact zv_ireturn dX8_setFault_31 rfl (by refine ⟨?_, ?_⟩ <;> simp_all [-Int32.not_lt, -Int32.not_le, ← Int32.not_lt, xT, xW, xK, xS, xF, xP, zb_0, zb_n, out_bey, s_sF])
set_option maxRecDepth 20000 in
set_option maxHeartbeats 4000000 in
theorem cM_gets {G : zh_G} {l : Launch} {g : Nat → va_E} {nn : Nat} {σ : sg} (hn : zg_B G + 28 ≤ nn) {q i : Int32} (hq : rk σ q) (hi : s_out i (xS σ q) = false) : zc G l yX8_gets cX8_gets 6 none 1 [.ref (zg_B G + 18), .int q, .int i] (ms G g σ, nn) 0 0 (fun o h' => o = none ∧ h' = (ms G g (s_gets σ q i), nn)) := by
  refine zc.of (by decide) (Nat.le_of_ble_eq_true rfl) ?_
  refine zv_aload_n dX8_gets_0 rfl ?_
  refine zM_get hn zf_X8_27_6 rfl dX8_gets_1 ?_
  refine zv_bipushv (v := 16) dX8_gets_4 (by decide) ?_
  refine zv_iload_n dX8_gets_6 rfl ?_
  refine zv_imul dX8_gets_7 ?_
  refine zv_iload_n dX8_gets_8 rfl ?_
  refine zv_iadd dX8_gets_9 ?_
  refine zM_ald11 hn (by first | with_reducible exact rk_i hq | with_reducible exact rk_p hq _ hi) dX8_gets_10 ?_
  refine zv_lstore_n dX8_gets_11 (by decide) ?_
  refine zv_aload_n dX8_gets_12 rfl ?_
  refine zM_get hn zf_X8_20_6 rfl dX8_gets_13 ?_
  refine zv_iload_n dX8_gets_16 rfl ?_
  refine zM_ald9 hn (by first | with_reducible exact rk_i hq | with_reducible exact rk_p hq _ hi) dX8_gets_17 ?_
  refine zv_istore dX8_gets_18 (by decide) ?_
  refine zv_iload dX8_gets_20 rfl ?_
  refine zv_bipushv (v := 8) dX8_gets_22 (by decide) ?_
  refine zv_icmp_ge (tgt := 37) dX8_gets_24 (by decide) (fun c24 => ?_) (fun c24 => ?_)
  · skip
    refine zv_aload_n dX8_gets_37 rfl ?_
    refine zv_lload_n dX8_gets_38 rfl ?_
    refine zv_lconstv (v := 0) dX8_gets_39 (by decide) ?_
    refine zv_lcmp dX8_gets_40 ?_
    refine zv_if_ne (tgt := 48) dX8_gets_41 (by decide) (fun c41 => ?_) (fun c41 => ?_)
    · skip
      refine zv_iload dX8_gets_48 rfl ?_
      refine zv_bipushv (v := 10) dX8_gets_50 (by decide) ?_
      refine zv_icmp_ne (tgt := 59) dX8_gets_52 (by decide) (fun c52 => ?_) (fun c52 => ?_)
      · skip
        refine zv_iconstv (v := 2) dX8_gets_59 (by decide) ?_
        refine zM_put2 hn zfw_X8_69_6 dX8_gets_60 ?_
        refine zv_aload_n dX8_gets_63 rfl ?_
        refine zv_iload dX8_gets_64 rfl ?_
        refine zv_bipushv (v := 10) dX8_gets_66 (by decide) ?_
        refine zv_icmp_ne (tgt := 77) dX8_gets_68 (by decide) (fun c68 => ?_) (fun c68 => ?_)
        · skip
          refine zv_lload_n dX8_gets_77 rfl ?_
          refine zv_l2i dX8_gets_78 ?_
          refine zM_put5 hn zfw_X8_72_6 dX8_gets_79 ?_
          exact zv_return dX8_gets_82 rfl (by refine ⟨?_, ?_⟩ <;> simp_all [-Int32.not_lt, -Int32.not_le, ← Int32.not_lt, xT, xW, xK, xS, xF, xP, zb_0, zb_n, out_bey, s_gets, cmp_eq])
        · skip
          refine zv_lload_n dX8_gets_71 rfl ?_
          refine zv_lconstv (v := 1) dX8_gets_72 (by decide) ?_
          refine zv_lsub dX8_gets_73 ?_
          refine zv_goto (tgt := 78) dX8_gets_74 (by decide) ?_
          refine zv_l2i dX8_gets_78 ?_
          refine zM_put5 hn zfw_X8_72_6 dX8_gets_79 ?_
          exact zv_return dX8_gets_82 rfl (by refine ⟨?_, ?_⟩ <;> simp_all [-Int32.not_lt, -Int32.not_le, ← Int32.not_lt, xT, xW, xK, xS, xF, xP, zb_0, zb_n, out_bey, s_gets, cmp_eq])
      · skip
        refine zv_iconstv (v := 3) dX8_gets_55 (by decide) ?_
        refine zv_goto (tgt := 60) dX8_gets_56 (by decide) ?_
        refine zM_put2 hn zfw_X8_69_6 dX8_gets_60 ?_
        refine zv_aload_n dX8_gets_63 rfl ?_
        refine zv_iload dX8_gets_64 rfl ?_
        refine zv_bipushv (v := 10) dX8_gets_66 (by decide) ?_
        refine zv_icmp_ne (tgt := 77) dX8_gets_68 (by decide) (fun c68 => ?_) (fun c68 => ?_)
        · skip
          refine zv_lload_n dX8_gets_77 rfl ?_
          refine zv_l2i dX8_gets_78 ?_
          refine zM_put5 hn zfw_X8_72_6 dX8_gets_79 ?_
          exact zv_return dX8_gets_82 rfl (by refine ⟨?_, ?_⟩ <;> simp_all [-Int32.not_lt, -Int32.not_le, ← Int32.not_lt, xT, xW, xK, xS, xF, xP, zb_0, zb_n, out_bey, s_gets, cmp_eq])
        · skip
          refine zv_lload_n dX8_gets_71 rfl ?_
          refine zv_lconstv (v := 1) dX8_gets_72 (by decide) ?_
          refine zv_lsub dX8_gets_73 ?_
          refine zv_goto (tgt := 78) dX8_gets_74 (by decide) ?_
          refine zv_l2i dX8_gets_78 ?_
          refine zM_put5 hn zfw_X8_72_6 dX8_gets_79 ?_
          exact zv_return dX8_gets_82 rfl (by refine ⟨?_, ?_⟩ <;> simp_all [-Int32.not_lt, -Int32.not_le, ← Int32.not_lt, xT, xW, xK, xS, xF, xP, zb_0, zb_n, out_bey, s_gets, cmp_eq])
    · skip
      refine zv_iconstv (v := 0) dX8_gets_44 (by decide) ?_
      refine zv_goto (tgt := 60) dX8_gets_45 (by decide) ?_
      refine zM_put2 hn zfw_X8_69_6 dX8_gets_60 ?_
      refine zv_aload_n dX8_gets_63 rfl ?_
      refine zv_iload dX8_gets_64 rfl ?_
      refine zv_bipushv (v := 10) dX8_gets_66 (by decide) ?_
      refine zv_icmp_ne (tgt := 77) dX8_gets_68 (by decide) (fun c68 => ?_) (fun c68 => ?_)
      · skip
        refine zv_lload_n dX8_gets_77 rfl ?_
        refine zv_l2i dX8_gets_78 ?_
        refine zM_put5 hn zfw_X8_72_6 dX8_gets_79 ?_
        exact zv_return dX8_gets_82 rfl (by refine ⟨?_, ?_⟩ <;> simp_all [-Int32.not_lt, -Int32.not_le, ← Int32.not_lt, xT, xW, xK, xS, xF, xP, zb_0, zb_n, out_bey, s_gets, cmp_eq])
      · skip
        refine zv_lload_n dX8_gets_71 rfl ?_
        refine zv_lconstv (v := 1) dX8_gets_72 (by decide) ?_
        refine zv_lsub dX8_gets_73 ?_
        refine zv_goto (tgt := 78) dX8_gets_74 (by decide) ?_
        refine zv_l2i dX8_gets_78 ?_
        refine zM_put5 hn zfw_X8_72_6 dX8_gets_79 ?_
        exact zv_return dX8_gets_82 rfl (by refine ⟨?_, ?_⟩ <;> simp_all [-Int32.not_lt, -Int32.not_le, ← Int32.not_lt, xT, xW, xK, xS, xF, xP, zb_0, zb_n, out_bey, s_gets, cmp_eq])
  · skip
    refine zv_aload_n dX8_gets_27 rfl ?_
    refine zv_iload dX8_gets_28 rfl ?_
    refine zv_lload_n dX8_gets_30 rfl ?_
    refine zM_call hn zm_X8_88 zkyX8_hold rfl (cM_hold hn) rfl rfl (Nat.le_of_ble_eq_true rfl) (by decide) dX8_gets_31 ?_
    refine zv_goto (tgt := 82) dX8_gets_34 (by decide) ?_
    exact zv_return dX8_gets_82 rfl (by refine ⟨?_, ?_⟩ <;> simp_all [-Int32.not_lt, -Int32.not_le, ← Int32.not_lt, xT, xW, xK, xS, xF, xP, zb_0, zb_n, out_bey, s_gets, cmp_eq])
