theorem ok_r {σ : sg} (ho : okG σ) {r : Int32} (hr : vp_in r 10) (h3 : xT σ r = 3) : rk σ (xW σ r) := ho.1.1 r hr h3
set_option maxRecDepth 20000 in
set_option maxHeartbeats 1000000 in
theorem cM_hang {G : zh_G} {l : Launch} {g : Nat → va_E} {nn : Nat} {σ : sg} (hn : zg_B G + 28 ≤ nn) {r : Int32} : zc G l yX8_hang cX8_hang 2 (some .int) 2 [.ref (zg_B G + 18), .int r] (ms G g σ, nn) 0 0 (fun o h' => o = some (.int (a_hang σ r)) ∧ h' = (ms G g (t_hang σ r), nn)) := by
  refine zc.of (by decide) (Nat.le_of_ble_eq_true rfl) ?_
  refine zv_iload_n dX8_hang_0 rfl ?_
  refine zv_callSq (mc := 0) (ms := 0) zm_X8_57 zkyX8_no cM_no rfl rfl (Nat.le_of_ble_eq_true rfl) (by decide) dX8_hang_1 ?_
  refine zv_if_eq (tgt := 9) dX8_hang_4 (by decide) (fun c4 => ?_) (fun c4 => ?_)
  · skip
    refine zv_aload_n dX8_hang_9 rfl ?_
    refine zM_get hn zf_X8_69_6 rfl dX8_hang_10 ?_
    refine zv_iconstv (v := 2) dX8_hang_13 (by decide) ?_
    refine zv_icmp_ge (tgt := 20) dX8_hang_14 (by decide) (fun c14 => ?_) (fun c14 => ?_)
    · skip
      refine zv_aload_n dX8_hang_20 rfl ?_
      refine zM_get hn zf_X8_7_6 rfl dX8_hang_21 ?_
      refine zv_iload_n dX8_hang_24 rfl ?_
      refine zv_aload_n dX8_hang_25 rfl ?_
      refine zM_get hn zf_X8_69_6 rfl dX8_hang_26 ?_
      refine zM_ast0 hn (no_in (zb_0.mp (by assumption))) dX8_hang_29 ?_
      refine zv_aload_n dX8_hang_30 rfl ?_
      refine zM_get hn zf_X8_13_6 rfl dX8_hang_31 ?_
      refine zv_iload_n dX8_hang_34 rfl ?_
      refine zv_aload_n dX8_hang_35 rfl ?_
      refine zM_get hn zf_X8_72_6 rfl dX8_hang_36 ?_
      refine zM_ast1 hn (no_in (zb_0.mp (by assumption))) dX8_hang_39 ?_
      refine zv_iconstv (v := 1) dX8_hang_40 (by decide) ?_
      exact zv_ireturn dX8_hang_41 rfl (by refine ⟨?_, ?_⟩ <;> simp_all [-Int32.not_lt, -Int32.not_le, ← Int32.not_lt, xT, xW, xK, xS, xF, xP, zb_0, zb_n, out_bey, bey_9, bey_10, bey_16, bey_7, bey_4, bey_5, bey_3, bey_m, bey_e, a_hang, t_hang, sa])
    · skip
      refine zv_bipushv (v := (-3)) dX8_hang_17 (by decide) ?_
      exact zv_ireturn dX8_hang_19 rfl (by refine ⟨?_, ?_⟩ <;> simp_all [-Int32.not_lt, -Int32.not_le, ← Int32.not_lt, xT, xW, xK, xS, xF, xP, zb_0, zb_n, out_bey, bey_9, bey_10, bey_16, bey_7, bey_4, bey_5, bey_3, bey_m, bey_e, a_hang, t_hang, sa])
  · skip
    refine zv_iconstv (v := (-1)) dX8_hang_7 (by decide) ?_
    exact zv_ireturn dX8_hang_8 rfl (by refine ⟨?_, ?_⟩ <;> simp_all [-Int32.not_lt, -Int32.not_le, ← Int32.not_lt, xT, xW, xK, xS, xF, xP, zb_0, zb_n, out_bey, bey_9, bey_10, bey_16, bey_7, bey_4, bey_5, bey_3, bey_m, bey_e, a_hang, t_hang, sa])
set_option maxRecDepth 20000 in
set_option maxHeartbeats 1000000 in
theorem cM_share {G : zh_G} {l : Launch} {g : Nat → va_E} {nn : Nat} {σ : sg} (hn : zg_B G + 28 ≤ nn) {r f : Int32} : zc G l yX8_share cX8_share 3 (some .int) 2 [.ref (zg_B G + 18), .int r, .int f] (ms G g σ, nn) 0 0 (fun o h' => o = some (.int (a_share r f)) ∧ h' = (ms G g (t_share σ r f), nn)) := by
  refine zc.of (by decide) (Nat.le_of_ble_eq_true rfl) ?_
  refine zv_iload_n dX8_share_0 rfl ?_
  refine zv_callSq (mc := 0) (ms := 0) zm_X8_57 zkyX8_no cM_no rfl rfl (Nat.le_of_ble_eq_true rfl) (by decide) dX8_share_1 ?_
  refine zv_if_ne (tgt := 14) dX8_share_4 (by decide) (fun c4 => ?_) (fun c4 => ?_)
  · skip
    refine zv_iconstv (v := (-1)) dX8_share_14 (by decide) ?_
    exact zv_ireturn dX8_share_15 rfl (by refine ⟨?_, ?_⟩ <;> simp_all [-Int32.not_lt, -Int32.not_le, ← Int32.not_lt, xT, xW, xK, xS, xF, xP, zb_0, zb_n, out_bey, bey_9, bey_10, bey_16, bey_7, bey_4, bey_5, bey_3, bey_m, bey_e, a_share, t_share, sa, va_up])
  · skip
    refine zv_iload_n dX8_share_7 rfl ?_
    refine zv_callSq (mc := 0) (ms := 0) zm_X8_57 zkyX8_no cM_no rfl rfl (Nat.le_of_ble_eq_true rfl) (by decide) dX8_share_8 ?_
    refine zv_if_eq (tgt := 16) dX8_share_11 (by decide) (fun c11 => ?_) (fun c11 => ?_)
    · skip
      refine zv_aload_n dX8_share_16 rfl ?_
      refine zM_get hn zf_X8_7_6 rfl dX8_share_17 ?_
      refine zv_iload_n dX8_share_20 rfl ?_
      refine zv_aload_n dX8_share_21 rfl ?_
      refine zM_get hn zf_X8_7_6 rfl dX8_share_22 ?_
      refine zv_iload_n dX8_share_25 rfl ?_
      refine zM_ald0 hn (no_in (zb_0.mp (by assumption))) dX8_share_26 ?_
      refine zM_ast0 hn (no_in (zb_0.mp (by assumption))) dX8_share_27 ?_
      refine zv_aload_n dX8_share_28 rfl ?_
      refine zM_get hn zf_X8_13_6 rfl dX8_share_29 ?_
      refine zv_iload_n dX8_share_32 rfl ?_
      refine zv_aload_n dX8_share_33 rfl ?_
      refine zM_get hn zf_X8_13_6 rfl dX8_share_34 ?_
      refine zv_iload_n dX8_share_37 rfl ?_
      refine zM_ald1 hn (no_in (zb_0.mp (by assumption))) dX8_share_38 ?_
      refine zM_ast1 hn (no_in (zb_0.mp (by assumption))) dX8_share_39 ?_
      refine zv_iconstv (v := 1) dX8_share_40 (by decide) ?_
      exact zv_ireturn dX8_share_41 rfl (by refine ⟨?_, ?_⟩ <;> simp_all [-Int32.not_lt, -Int32.not_le, ← Int32.not_lt, xT, xW, xK, xS, xF, xP, zb_0, zb_n, out_bey, bey_9, bey_10, bey_16, bey_7, bey_4, bey_5, bey_3, bey_m, bey_e, a_share, t_share, sa, va_up])
    · skip
      refine zv_iconstv (v := (-1)) dX8_share_14 (by decide) ?_
      exact zv_ireturn dX8_share_15 rfl (by refine ⟨?_, ?_⟩ <;> simp_all [-Int32.not_lt, -Int32.not_le, ← Int32.not_lt, xT, xW, xK, xS, xF, xP, zb_0, zb_n, out_bey, bey_9, bey_10, bey_16, bey_7, bey_4, bey_5, bey_3, bey_m, bey_e, a_share, t_share, sa, va_up])
set_option maxRecDepth 20000 in
set_option maxHeartbeats 1000000 in
theorem cM_empty {G : zh_G} {l : Launch} {g : Nat → va_E} {nn : Nat} {σ : sg} (hn : zg_B G + 28 ≤ nn) {r : Int32} : zc G l yX8_empty cX8_empty 2 (some .int) 2 [.ref (zg_B G + 18), .int r] (ms G g σ, nn) 0 0 (fun o h' => o = some (.int (a_empty r)) ∧ h' = (ms G g (t_empty σ r), nn)) := by
  refine zc.of (by decide) (Nat.le_of_ble_eq_true rfl) ?_
  refine zv_iload_n dX8_empty_0 rfl ?_
  refine zv_callSq (mc := 0) (ms := 0) zm_X8_57 zkyX8_no cM_no rfl rfl (Nat.le_of_ble_eq_true rfl) (by decide) dX8_empty_1 ?_
  refine zv_if_eq (tgt := 9) dX8_empty_4 (by decide) (fun c4 => ?_) (fun c4 => ?_)
  · skip
    refine zv_aload_n dX8_empty_9 rfl ?_
    refine zM_get hn zf_X8_7_6 rfl dX8_empty_10 ?_
    refine zv_iload_n dX8_empty_13 rfl ?_
    refine zv_iconstv (v := 0) dX8_empty_14 (by decide) ?_
    refine zM_ast0 hn (no_in (zb_0.mp (by assumption))) dX8_empty_15 ?_
    refine zv_iconstv (v := 1) dX8_empty_16 (by decide) ?_
    exact zv_ireturn dX8_empty_17 rfl (by refine ⟨?_, ?_⟩ <;> simp_all [-Int32.not_lt, -Int32.not_le, ← Int32.not_lt, xT, xW, xK, xS, xF, xP, zb_0, zb_n, out_bey, bey_9, bey_10, bey_16, bey_7, bey_4, bey_5, bey_3, bey_m, bey_e, a_empty, t_empty])
  · skip
    refine zv_iconstv (v := (-1)) dX8_empty_7 (by decide) ?_
    exact zv_ireturn dX8_empty_8 rfl (by refine ⟨?_, ?_⟩ <;> simp_all [-Int32.not_lt, -Int32.not_le, ← Int32.not_lt, xT, xW, xK, xS, xF, xP, zb_0, zb_n, out_bey, bey_9, bey_10, bey_16, bey_7, bey_4, bey_5, bey_3, bey_m, bey_e, a_empty, t_empty])
set_option maxRecDepth 20000 in
set_option maxHeartbeats 1000000 in
theorem cM_gauge {G : zh_G} {l : Launch} {g : Nat → va_E} {nn : Nat} {σ : sg} (hn : zg_B G + 28 ≤ nn) {k : Int32} {v : Int64} : zc G l yX8_gauge cX8_gauge 4 (some .int) 1 [.ref (zg_B G + 18), .int k, .long v] (ms G g σ, nn) 0 0 (fun o h' => o = some (.int (a_gauge k)) ∧ h' = (ms G g (t_gauge σ k v), nn)) := by
  refine zc.of (by decide) (Nat.le_of_ble_eq_true rfl) ?_
  refine zv_iload_n dX8_gauge_0 rfl ?_
  refine zv_i2l dX8_gauge_1 ?_
  refine zv_lconstv (v := 0) dX8_gauge_2 (by decide) ?_
  refine zv_ldc2 dX8_gauge_3 zq_X8_82 ?_
  refine zv_callSq (mc := 0) (ms := 0) zm_X8_42 zkyX8_beyond cM_beyond rfl rfl (Nat.le_of_ble_eq_true rfl) (by decide) dX8_gauge_6 ?_
  refine zv_if_eq (tgt := 15) dX8_gauge_9 (by decide) (fun c9 => ?_) (fun c9 => ?_)
  · skip
    refine zv_aload_n dX8_gauge_15 rfl ?_
    refine zv_iload_n dX8_gauge_16 rfl ?_
    refine zv_iload_n dX8_gauge_17 rfl ?_
    refine zv_lload_n dX8_gauge_18 rfl ?_
    refine zv_callSq (mc := 0) (ms := 0) zm_X8_84 zkyX8_as cM_as rfl rfl (Nat.le_of_ble_eq_true rfl) (by decide) dX8_gauge_19 ?_
    refine zM_call hn zm_X8_88 zkyX8_hold rfl (cM_hold hn) rfl rfl (Nat.le_of_ble_eq_true rfl) (by decide) dX8_gauge_22 ?_
    refine zv_iconstv (v := 1) dX8_gauge_25 (by decide) ?_
    exact zv_ireturn dX8_gauge_26 rfl (by refine ⟨?_, ?_⟩ <;> simp_all [-Int32.not_lt, -Int32.not_le, ← Int32.not_lt, xT, xW, xK, xS, xF, xP, zb_0, zb_n, out_bey, bey_9, bey_10, bey_16, bey_7, bey_4, bey_5, bey_3, bey_m, bey_e, a_gauge, t_gauge])
  · skip
    refine zv_bipushv (v := (-2)) dX8_gauge_12 (by decide) ?_
    exact zv_ireturn dX8_gauge_14 rfl (by refine ⟨?_, ?_⟩ <;> simp_all [-Int32.not_lt, -Int32.not_le, ← Int32.not_lt, xT, xW, xK, xS, xF, xP, zb_0, zb_n, out_bey, bey_9, bey_10, bey_16, bey_7, bey_4, bey_5, bey_3, bey_m, bey_e, a_gauge, t_gauge])
set_option maxRecDepth 20000 in
set_option maxHeartbeats 1000000 in
theorem cM_none {G : zh_G} {l : Launch} {g : Nat → va_E} {nn : Nat} {σ : sg} (hn : zg_B G + 28 ≤ nn)  : zc G l yX8_none cX8_none 1 (some .int) 0 [.ref (zg_B G + 18)] (ms G g σ, nn) 0 0 (fun o h' => o = some (.int 1) ∧ h' = (ms G g (t_none σ), nn)) := by
  refine zc.of (by decide) (Nat.le_of_ble_eq_true rfl) ?_
  refine zv_aload_n dX8_none_0 rfl ?_
  refine zv_iconstv (v := 0) dX8_none_1 (by decide) ?_
  refine zM_put2 hn zfw_X8_69_6 dX8_none_2 ?_
  refine zv_iconstv (v := 1) dX8_none_5 (by decide) ?_
  exact zv_ireturn dX8_none_6 rfl (by refine ⟨?_, ?_⟩ <;> simp_all [-Int32.not_lt, -Int32.not_le, ← Int32.not_lt, xT, xW, xK, xS, xF, xP, zb_0, zb_n, out_bey, bey_9, bey_10, bey_16, bey_7, bey_4, bey_5, bey_3, bey_m, bey_e, t_none])
set_option maxRecDepth 20000 in
set_option maxHeartbeats 1000000 in
theorem cM_probe {G : zh_G} {l : Launch} {g : Nat → va_E} {nn : Nat} {σ : sg} (hn : zg_B G + 28 ≤ nn) {b : Int32} (hb : narrow .boolean (.int b) = .int b) (hp : ¬ σ.1 6 = 40 → vp_in (σ.1 6 + 1) 41) : zc G l yX8_probe cX8_probe 2 (some .int) 0 [.ref (zg_B G + 18), .int b] (ms G g σ, nn) 0 0 (fun o h' => o = some (.int (a_probe σ)) ∧ h' = (ms G g (t_probe σ b), nn)) := by
  refine zc.of (by decide) (Nat.le_of_ble_eq_true rfl) ?_
  refine zv_aload_n dX8_probe_0 rfl ?_
  refine zM_get hn zf_X8_92_6 rfl dX8_probe_1 ?_
  refine zv_bipushv (v := 40) dX8_probe_4 (by decide) ?_
  refine zv_icmp_ne (tgt := 12) dX8_probe_6 (by decide) (fun c6 => ?_) (fun c6 => ?_)
  · skip
    refine zv_aload_n dX8_probe_12 rfl ?_
    refine zv_dup dX8_probe_13 rfl ?_
    refine zM_get hn zf_X8_92_6 rfl dX8_probe_14 ?_
    refine zv_iconstv (v := 1) dX8_probe_17 (by decide) ?_
    refine zv_iadd dX8_probe_18 ?_
    refine zM_put6 hn zfw_X8_92_6 dX8_probe_19 ?_
    refine zv_aload_n dX8_probe_22 rfl ?_
    refine zM_get hn zf_X8_16_6 rfl dX8_probe_23 ?_
    refine zv_aload_n dX8_probe_26 rfl ?_
    refine zM_get hn zf_X8_92_6 rfl dX8_probe_27 ?_
    refine zv_iload_n dX8_probe_30 rfl ?_
    refine zM_ast7 hn (hp (by assumption)) (hb) dX8_probe_31 ?_
    refine zv_aload_n dX8_probe_32 rfl ?_
    refine zv_iconstv (v := 2) dX8_probe_33 (by decide) ?_
    refine zM_put2 hn zfw_X8_69_6 dX8_probe_34 ?_
    refine zv_aload_n dX8_probe_37 rfl ?_
    refine zv_aload_n dX8_probe_38 rfl ?_
    refine zM_get hn zf_X8_92_6 rfl dX8_probe_39 ?_
    refine zM_put5 hn zfw_X8_72_6 dX8_probe_42 ?_
    refine zv_aload_n dX8_probe_45 rfl ?_
    refine zM_get hn zf_X8_92_6 rfl dX8_probe_46 ?_
    exact zv_ireturn dX8_probe_49 rfl (by refine ⟨?_, ?_⟩ <;> simp_all [-Int32.not_lt, -Int32.not_le, ← Int32.not_lt, xT, xW, xK, xS, xF, xP, zb_0, zb_n, out_bey, bey_9, bey_10, bey_16, bey_7, bey_4, bey_5, bey_3, bey_m, bey_e, a_probe, t_probe, si, sa, upd])
  · skip
    refine zv_bipushv (v := (-4)) dX8_probe_9 (by decide) ?_
    exact zv_ireturn dX8_probe_11 rfl (by refine ⟨?_, ?_⟩ <;> simp_all [-Int32.not_lt, -Int32.not_le, ← Int32.not_lt, xT, xW, xK, xS, xF, xP, zb_0, zb_n, out_bey, bey_9, bey_10, bey_16, bey_7, bey_4, bey_5, bey_3, bey_m, bey_e, a_probe, t_probe, si, sa, upd])
set_option maxRecDepth 20000 in
set_option maxHeartbeats 1000000 in
theorem cM_get {G : zh_G} {l : Launch} {g : Nat → va_E} {nn : Nat} {σ : sg} (hn : zg_B G + 28 ≤ nn) {r i : Int32} (ho : okG σ) : zc G l yX8_get cX8_get 4 (some .int) 3 [.ref (zg_B G + 18), .int r, .int i] (ms G g σ, nn) 0 0 (fun o h' => o = some (.int (a_get σ r i)) ∧ h' = (ms G g (t_get σ r i), nn)) := by
  refine zc.of (by decide) (Nat.le_of_ble_eq_true rfl) ?_
  refine zv_iload_n dX8_get_0 rfl ?_
  refine zv_callSq (mc := 0) (ms := 0) zm_X8_57 zkyX8_no cM_no rfl rfl (Nat.le_of_ble_eq_true rfl) (by decide) dX8_get_1 ?_
  refine zv_if_eq (tgt := 9) dX8_get_4 (by decide) (fun c4 => ?_) (fun c4 => ?_)
  · skip
    refine zv_aload_n dX8_get_9 rfl ?_
    refine zv_iload_n dX8_get_10 rfl ?_
    refine zv_iload_n dX8_get_11 rfl ?_
    refine zM_callg hn zm_X8_115 zkyX8_doGet rfl (cM_doGet hn (no_in (zb_0.mp (by assumption))) (ho.1.1 _ (no_in (zb_0.mp (by assumption))))) rfl rfl (Nat.le_of_ble_eq_true rfl) (by decide) dX8_get_12 (fun σ12 e12 => ?_)
    refine zv_istore_n dX8_get_15 (by decide) ?_
    refine zv_aload_n dX8_get_16 rfl ?_
    refine zv_iload_n dX8_get_17 rfl ?_
    refine zv_aload_n dX8_get_18 rfl ?_
    refine zM_call hn zm_X8_118 zkyX8_has rfl (cM_has hn (by subst e12; exact (ho.2.1 _ _ (no_in (zb_0.mp (by assumption)))).2.2.1)) rfl rfl (Nat.le_of_ble_eq_true rfl) (by decide) dX8_get_19 ?_
    refine zM_call hn zm_X8_121 zkyX8_answer rfl (cM_answer hn (fun _ => gF_in _ _ _ _)) rfl rfl (Nat.le_of_ble_eq_true rfl) (by decide) dX8_get_22 ?_
    exact zv_ireturn dX8_get_25 rfl (by refine ⟨?_, ?_⟩ <;> simp_all [-Int32.not_lt, -Int32.not_le, ← Int32.not_lt, xT, xW, xK, xS, xF, xP, zb_0, zb_n, out_bey, bey_9, bey_10, bey_16, bey_7, bey_4, bey_5, bey_3, bey_m, bey_e, a_get, t_get])
  · skip
    refine zv_iconstv (v := (-1)) dX8_get_7 (by decide) ?_
    exact zv_ireturn dX8_get_8 rfl (by refine ⟨?_, ?_⟩ <;> simp_all [-Int32.not_lt, -Int32.not_le, ← Int32.not_lt, xT, xW, xK, xS, xF, xP, zb_0, zb_n, out_bey, bey_9, bey_10, bey_16, bey_7, bey_4, bey_5, bey_3, bey_m, bey_e, a_get, t_get])
set_option maxRecDepth 20000 in
set_option maxHeartbeats 1000000 in
theorem cM_set {G : zh_G} {l : Launch} {g : Nat → va_E} {nn : Nat} {σ : sg} (hn : zg_B G + 28 ≤ nn) {r i : Int32} (ho : okG σ) : zc G l yX8_set cX8_set 3 (some .int) 4 [.ref (zg_B G + 18), .int r, .int i] (ms G g σ, nn) 0 0 (fun o h' => o = some (.int (a_set σ r i)) ∧ h' = (ms G g (t_sett σ r i), nn)) := by
  refine zc.of (by decide) (Nat.le_of_ble_eq_true rfl) ?_
  refine zv_iload_n dX8_set_0 rfl ?_
  refine zv_callSq (mc := 0) (ms := 0) zm_X8_57 zkyX8_no cM_no rfl rfl (Nat.le_of_ble_eq_true rfl) (by decide) dX8_set_1 ?_
  refine zv_if_eq (tgt := 11) dX8_set_4 (by decide) (fun c4 => ?_) (fun c4 => ?_)
  · skip
    refine zv_aload_n dX8_set_11 rfl ?_
    refine zv_aload_n dX8_set_12 rfl ?_
    refine zv_iload_n dX8_set_13 rfl ?_
    refine zv_iload_n dX8_set_14 rfl ?_
    refine zM_callg hn zm_X8_127 zkyX8_doSet rfl (cM_doSet hn (no_in (zb_0.mp (by assumption))) (ho.1.1 _ (no_in (zb_0.mp (by assumption)))) ho.1.2.1) rfl rfl (Nat.le_of_ble_eq_true rfl) (by decide) dX8_set_15 (fun σ15 e15 => ?_)
    refine zv_iconstv (v := 1) dX8_set_18 (by decide) ?_
    refine zM_call hn zm_X8_121 zkyX8_answer rfl (cM_answer hn (fun _ => sF_in _ _ _)) rfl rfl (Nat.le_of_ble_eq_true rfl) (by decide) dX8_set_19 ?_
    exact zv_ireturn dX8_set_22 rfl (by refine ⟨?_, ?_⟩ <;> simp_all [-Int32.not_lt, -Int32.not_le, ← Int32.not_lt, xT, xW, xK, xS, xF, xP, zb_0, zb_n, out_bey, bey_9, bey_10, bey_16, bey_7, bey_4, bey_5, bey_3, bey_m, bey_e, a_set, t_sett])
  · skip
    refine zv_iconstv (v := (-1)) dX8_set_7 (by decide) ?_
    refine zv_goto (tgt := 22) dX8_set_8 (by decide) ?_
    exact zv_ireturn dX8_set_22 rfl (by refine ⟨?_, ?_⟩ <;> simp_all [-Int32.not_lt, -Int32.not_le, ← Int32.not_lt, xT, xW, xK, xS, xF, xP, zb_0, zb_n, out_bey, bey_9, bey_10, bey_16, bey_7, bey_4, bey_5, bey_3, bey_m, bey_e, a_set, t_sett])
set_option maxRecDepth 20000 in
set_option maxHeartbeats 1000000 in
theorem cM_read {G : zh_G} {l : Launch} {g : Nat → va_E} {nn : Nat} {σ : sg} (hn : zg_B G + 28 ≤ nn) {r i to : Int32} (ho : okG σ) : zc G l yX8_read cX8_read 4 (some .int) 3 [.ref (zg_B G + 18), .int r, .int i, .int to] (ms G g σ, nn) 0 0 (fun o h' => o = some (.int (a_read σ r i to)) ∧ h' = (ms G g (t_read σ r i to), nn)) := by
  refine zc.of (by decide) (Nat.le_of_ble_eq_true rfl) ?_
  refine zv_iload_n dX8_read_0 rfl ?_
  refine zv_callSq (mc := 0) (ms := 0) zm_X8_57 zkyX8_no cM_no rfl rfl (Nat.le_of_ble_eq_true rfl) (by decide) dX8_read_1 ?_
  refine zv_if_eq (tgt := 9) dX8_read_4 (by decide) (fun c4 => ?_) (fun c4 => ?_)
  · skip
    refine zv_iload_n dX8_read_9 rfl ?_
    refine zv_i2l dX8_read_10 ?_
    refine zv_lconstv (v := 0) dX8_read_11 (by decide) ?_
    refine zv_ldc2 dX8_read_12 zq_X8_82 ?_
    refine zv_callSq (mc := 0) (ms := 0) zm_X8_42 zkyX8_beyond cM_beyond rfl rfl (Nat.le_of_ble_eq_true rfl) (by decide) dX8_read_15 ?_
    refine zv_if_eq (tgt := 26) dX8_read_18 (by decide) (fun c18 => ?_) (fun c18 => ?_)
    · skip
      refine zv_aload_n dX8_read_26 rfl ?_
      refine zv_aload_n dX8_read_27 rfl ?_
      refine zv_aload_n dX8_read_28 rfl ?_
      refine zM_get hn zf_X8_7_6 rfl dX8_read_29 ?_
      refine zv_iload_n dX8_read_32 rfl ?_
      refine zM_ald0 hn (no_in (zb_0.mp (by assumption))) dX8_read_33 ?_
      refine zv_aload_n dX8_read_34 rfl ?_
      refine zM_get hn zf_X8_13_6 rfl dX8_read_35 ?_
      refine zv_iload_n dX8_read_38 rfl ?_
      refine zM_ald1 hn (no_in (zb_0.mp (by assumption))) dX8_read_39 ?_
      refine zv_iload_n dX8_read_40 rfl ?_
      refine zv_iload_n dX8_read_41 rfl ?_
      refine zM_callg hn zm_X8_134 zkyX8_doRead rfl (cM_doRead hn (ho.1.1 _ (no_in (zb_0.mp (by assumption))))) rfl rfl (Nat.le_of_ble_eq_true rfl) (by decide) dX8_read_42 (fun σ42 e42 => ?_)
      refine zv_iconstv (v := 1) dX8_read_45 (by decide) ?_
      refine zM_call hn zm_X8_121 zkyX8_answer rfl (cM_answer hn (fun _ => rF_in _ _ _ _ _)) rfl rfl (Nat.le_of_ble_eq_true rfl) (by decide) dX8_read_46 ?_
      exact zv_ireturn dX8_read_49 rfl (by refine ⟨?_, ?_⟩ <;> simp_all [-Int32.not_lt, -Int32.not_le, ← Int32.not_lt, xT, xW, xK, xS, xF, xP, zb_0, zb_n, out_bey, bey_9, bey_10, bey_16, bey_7, bey_4, bey_5, bey_3, bey_m, bey_e, a_read, t_read])
    · skip
      refine zv_bipushv (v := (-2)) dX8_read_21 (by decide) ?_
      refine zv_goto (tgt := 49) dX8_read_23 (by decide) ?_
      exact zv_ireturn dX8_read_49 rfl (by refine ⟨?_, ?_⟩ <;> simp_all [-Int32.not_lt, -Int32.not_le, ← Int32.not_lt, xT, xW, xK, xS, xF, xP, zb_0, zb_n, out_bey, bey_9, bey_10, bey_16, bey_7, bey_4, bey_5, bey_3, bey_m, bey_e, a_read, t_read])
  · skip
    refine zv_iconstv (v := (-1)) dX8_read_7 (by decide) ?_
    exact zv_ireturn dX8_read_8 rfl (by refine ⟨?_, ?_⟩ <;> simp_all [-Int32.not_lt, -Int32.not_le, ← Int32.not_lt, xT, xW, xK, xS, xF, xP, zb_0, zb_n, out_bey, bey_9, bey_10, bey_16, bey_7, bey_4, bey_5, bey_3, bey_m, bey_e, a_read, t_read])
set_option maxRecDepth 20000 in
set_option maxHeartbeats 1000000 in
theorem cM_write {G : zh_G} {l : Launch} {g : Nat → va_E} {nn : Nat} {σ : sg} (hn : zg_B G + 28 ≤ nn) {r i of : Int32} (ho : okG σ) : zc G l yX8_write cX8_write 4 (some .int) 3 [.ref (zg_B G + 18), .int r, .int i, .int of] (ms G g σ, nn) 0 0 (fun o h' => o = some (.int (a_write σ r i of)) ∧ h' = (ms G g (t_write σ r i of), nn)) := by
  refine zc.of (by decide) (Nat.le_of_ble_eq_true rfl) ?_
  refine zv_iload_n dX8_write_0 rfl ?_
  refine zv_callSq (mc := 0) (ms := 0) zm_X8_57 zkyX8_no cM_no rfl rfl (Nat.le_of_ble_eq_true rfl) (by decide) dX8_write_1 ?_
  refine zv_if_eq (tgt := 9) dX8_write_4 (by decide) (fun c4 => ?_) (fun c4 => ?_)
  · skip
    refine zv_iload_n dX8_write_9 rfl ?_
    refine zv_i2l dX8_write_10 ?_
    refine zv_lconstv (v := 0) dX8_write_11 (by decide) ?_
    refine zv_ldc2 dX8_write_12 zq_X8_82 ?_
    refine zv_callSq (mc := 0) (ms := 0) zm_X8_42 zkyX8_beyond cM_beyond rfl rfl (Nat.le_of_ble_eq_true rfl) (by decide) dX8_write_15 ?_
    refine zv_if_eq (tgt := 24) dX8_write_18 (by decide) (fun c18 => ?_) (fun c18 => ?_)
    · skip
      refine zv_aload_n dX8_write_24 rfl ?_
      refine zM_get hn zf_X8_69_6 rfl dX8_write_25 ?_
      refine zv_iconstv (v := 1) dX8_write_28 (by decide) ?_
      refine zv_icmp_eq (tgt := 37) dX8_write_29 (by decide) (fun c29 => ?_) (fun c29 => ?_)
      · skip
        refine zv_aload_n dX8_write_37 rfl ?_
        refine zv_aload_n dX8_write_38 rfl ?_
        refine zv_aload_n dX8_write_39 rfl ?_
        refine zM_get hn zf_X8_7_6 rfl dX8_write_40 ?_
        refine zv_iload_n dX8_write_43 rfl ?_
        refine zM_ald0 hn (no_in (zb_0.mp (by assumption))) dX8_write_44 ?_
        refine zv_aload_n dX8_write_45 rfl ?_
        refine zM_get hn zf_X8_13_6 rfl dX8_write_46 ?_
        refine zv_iload_n dX8_write_49 rfl ?_
        refine zM_ald1 hn (no_in (zb_0.mp (by assumption))) dX8_write_50 ?_
        refine zv_iload_n dX8_write_51 rfl ?_
        refine zv_iload_n dX8_write_52 rfl ?_
        refine zv_aload_n dX8_write_53 rfl ?_
        refine zM_get hn zf_X8_78_6 rfl dX8_write_54 ?_
        refine zM_callg hn zm_X8_140 zkyX8_doWrite rfl (cM_doWrite hn (ho.1.1 _ (no_in (zb_0.mp (by assumption))))) rfl rfl (Nat.le_of_ble_eq_true rfl) (by decide) dX8_write_57 (fun σ57 e57 => ?_)
        refine zv_iconstv (v := 1) dX8_write_60 (by decide) ?_
        refine zM_call hn zm_X8_121 zkyX8_answer rfl (cM_answer hn (fun _ => wF_in _ _ _ _ _)) rfl rfl (Nat.le_of_ble_eq_true rfl) (by decide) dX8_write_61 ?_
        exact zv_ireturn dX8_write_64 rfl (by refine ⟨?_, ?_⟩ <;> simp_all [-Int32.not_lt, -Int32.not_le, ← Int32.not_lt, xT, xW, xK, xS, xF, xP, zb_0, zb_n, out_bey, bey_9, bey_10, bey_16, bey_7, bey_4, bey_5, bey_3, bey_m, bey_e, a_write, t_write])
      · skip
        refine zv_bipushv (v := (-3)) dX8_write_32 (by decide) ?_
        refine zv_goto (tgt := 64) dX8_write_34 (by decide) ?_
        exact zv_ireturn dX8_write_64 rfl (by refine ⟨?_, ?_⟩ <;> simp_all [-Int32.not_lt, -Int32.not_le, ← Int32.not_lt, xT, xW, xK, xS, xF, xP, zb_0, zb_n, out_bey, bey_9, bey_10, bey_16, bey_7, bey_4, bey_5, bey_3, bey_m, bey_e, a_write, t_write])
    · skip
      refine zv_bipushv (v := (-2)) dX8_write_21 (by decide) ?_
      exact zv_ireturn dX8_write_23 rfl (by refine ⟨?_, ?_⟩ <;> simp_all [-Int32.not_lt, -Int32.not_le, ← Int32.not_lt, xT, xW, xK, xS, xF, xP, zb_0, zb_n, out_bey, bey_9, bey_10, bey_16, bey_7, bey_4, bey_5, bey_3, bey_m, bey_e, a_write, t_write])
  · skip
    refine zv_iconstv (v := (-1)) dX8_write_7 (by decide) ?_
    exact zv_ireturn dX8_write_8 rfl (by refine ⟨?_, ?_⟩ <;> simp_all [-Int32.not_lt, -Int32.not_le, ← Int32.not_lt, xT, xW, xK, xS, xF, xP, zb_0, zb_n, out_bey, bey_9, bey_10, bey_16, bey_7, bey_4, bey_5, bey_3, bey_m, bey_e, a_write, t_write])
set_option maxRecDepth 20000 in
set_option maxHeartbeats 1000000 in
theorem cM_size {G : zh_G} {l : Launch} {g : Nat → va_E} {nn : Nat} {σ : sg} (hn : zg_B G + 28 ≤ nn) {r : Int32} (ho : okG σ) : zc G l yX8_size cX8_size 3 (some .int) 2 [.ref (zg_B G + 18), .int r] (ms G g σ, nn) 0 0 (fun o h' => o = some (.int (a_size σ r)) ∧ h' = (ms G g (t_size σ r), nn)) := by
  refine zc.of (by decide) (Nat.le_of_ble_eq_true rfl) ?_
  refine zv_iload_n dX8_size_0 rfl ?_
  refine zv_callSq (mc := 0) (ms := 0) zm_X8_57 zkyX8_no cM_no rfl rfl (Nat.le_of_ble_eq_true rfl) (by decide) dX8_size_1 ?_
  refine zv_if_eq (tgt := 9) dX8_size_4 (by decide) (fun c4 => ?_) (fun c4 => ?_)
  · skip
    refine zv_aload_n dX8_size_9 rfl ?_
    refine zv_iload_n dX8_size_10 rfl ?_
    refine zM_call hn zm_X8_144 zkyX8_sizeFault rfl (cM_sizeFault hn (no_in (zb_0.mp (by assumption)))) rfl rfl (Nat.le_of_ble_eq_true rfl) (by decide) dX8_size_11 ?_
    refine zv_istore_n dX8_size_14 (by decide) ?_
    refine zv_aload_n dX8_size_15 rfl ?_
    refine zv_iload_n dX8_size_16 rfl ?_
    refine zv_iload_n dX8_size_17 rfl ?_
    refine zv_if_le (tgt := 25) dX8_size_18 (by decide) (fun c18 => ?_) (fun c18 => ?_)
    · skip
      refine zv_aload_n dX8_size_25 rfl ?_
      refine zM_get hn zf_X8_23_6 rfl dX8_size_26 ?_
      refine zv_aload_n dX8_size_29 rfl ?_
      refine zM_get hn zf_X8_13_6 rfl dX8_size_30 ?_
      refine zv_iload_n dX8_size_33 rfl ?_
      refine zM_ald1 hn (by first | with_reducible exact (no_in (zb_0.mp (by assumption))) | with_reducible exact rk_i (ok_r ho (no_in (zb_0.mp (by assumption))) (szF_3 (by assumption)))) dX8_size_34 ?_
      refine zM_ald10 hn (by first | with_reducible exact (no_in (zb_0.mp (by assumption))) | with_reducible exact rk_i (ok_r ho (no_in (zb_0.mp (by assumption))) (szF_3 (by assumption)))) dX8_size_35 ?_
      refine zM_call hn zm_X8_121 zkyX8_answer rfl (cM_answer hn (fun _ => szF_in _ _)) rfl rfl (Nat.le_of_ble_eq_true rfl) (by decide) dX8_size_36 ?_
      exact zv_ireturn dX8_size_39 rfl (by refine ⟨?_, ?_⟩ <;> simp_all [-Int32.not_lt, -Int32.not_le, ← Int32.not_lt, xT, xW, xK, xS, xF, xP, zb_0, zb_n, out_bey, bey_9, bey_10, bey_16, bey_7, bey_4, bey_5, bey_3, bey_m, bey_e, a_size, t_size])
    · skip
      refine zv_iconstv (v := 0) dX8_size_21 (by decide) ?_
      refine zv_goto (tgt := 36) dX8_size_22 (by decide) ?_
      refine zM_call hn zm_X8_121 zkyX8_answer rfl (cM_answer hn (fun _ => szF_in _ _)) rfl rfl (Nat.le_of_ble_eq_true rfl) (by decide) dX8_size_36 ?_
      exact zv_ireturn dX8_size_39 rfl (by refine ⟨?_, ?_⟩ <;> simp_all [-Int32.not_lt, -Int32.not_le, ← Int32.not_lt, xT, xW, xK, xS, xF, xP, zb_0, zb_n, out_bey, bey_9, bey_10, bey_16, bey_7, bey_4, bey_5, bey_3, bey_m, bey_e, a_size, t_size])
  · skip
    refine zv_iconstv (v := (-1)) dX8_size_7 (by decide) ?_
    exact zv_ireturn dX8_size_8 rfl (by refine ⟨?_, ?_⟩ <;> simp_all [-Int32.not_lt, -Int32.not_le, ← Int32.not_lt, xT, xW, xK, xS, xF, xP, zb_0, zb_n, out_bey, bey_9, bey_10, bey_16, bey_7, bey_4, bey_5, bey_3, bey_m, bey_e, a_size, t_size])
set_option maxRecDepth 20000 in
set_option maxHeartbeats 1000000 in
theorem cM_within {G : zh_G} {l : Launch} {g : Nat → va_E} {nn : Nat} {σ : sg} (hn : zg_B G + 28 ≤ nn) {r i j : Int32} (ho : okG σ) : zc G l yX8_within cX8_within 4 (some .int) 4 [.ref (zg_B G + 18), .int r, .int i, .int j] (ms G g σ, nn) 0 0 (fun o h' => o = some (.int (a_within σ r i j)) ∧ h' = (ms G g (t_within σ r i j), nn)) := by
  refine zc.of (by decide) (Nat.le_of_ble_eq_true rfl) ?_
  refine zv_iload_n dX8_within_0 rfl ?_
  refine zv_callSq (mc := 0) (ms := 0) zm_X8_57 zkyX8_no cM_no rfl rfl (Nat.le_of_ble_eq_true rfl) (by decide) dX8_within_1 ?_
  refine zv_if_eq (tgt := 11) dX8_within_4 (by decide) (fun c4 => ?_) (fun c4 => ?_)
  · skip
    refine zv_aload_n dX8_within_11 rfl ?_
    refine zv_aload_n dX8_within_12 rfl ?_
    refine zv_iload_n dX8_within_13 rfl ?_
    refine zv_iload_n dX8_within_14 rfl ?_
    refine zv_iload_n dX8_within_15 rfl ?_
    refine zM_callg hn zm_X8_156 zkyX8_doWithin rfl (cM_doWithin hn (no_in (zb_0.mp (by assumption))) (ho.1.1 _ (no_in (zb_0.mp (by assumption)))) (ho.2.2 _ _ (no_in (zb_0.mp (by assumption))))) rfl rfl (Nat.le_of_ble_eq_true rfl) (by decide) dX8_within_16 (fun σ16 e16 => ?_)
    refine zv_iconstv (v := 1) dX8_within_19 (by decide) ?_
    refine zM_call hn zm_X8_121 zkyX8_answer rfl (cM_answer hn (fun _ => wiF_in _ _ _ _)) rfl rfl (Nat.le_of_ble_eq_true rfl) (by decide) dX8_within_20 ?_
    exact zv_ireturn dX8_within_23 rfl (by refine ⟨?_, ?_⟩ <;> simp_all [-Int32.not_lt, -Int32.not_le, ← Int32.not_lt, xT, xW, xK, xS, xF, xP, zb_0, zb_n, out_bey, bey_9, bey_10, bey_16, bey_7, bey_4, bey_5, bey_3, bey_m, bey_e, a_within, t_within])
  · skip
    refine zv_iconstv (v := (-1)) dX8_within_7 (by decide) ?_
    refine zv_goto (tgt := 23) dX8_within_8 (by decide) ?_
    exact zv_ireturn dX8_within_23 rfl (by refine ⟨?_, ?_⟩ <;> simp_all [-Int32.not_lt, -Int32.not_le, ← Int32.not_lt, xT, xW, xK, xS, xF, xP, zb_0, zb_n, out_bey, bey_9, bey_10, bey_16, bey_7, bey_4, bey_5, bey_3, bey_m, bey_e, a_within, t_within])
set_option maxRecDepth 20000 in
set_option maxHeartbeats 1000000 in
theorem cM_into {G : zh_G} {l : Launch} {g : Nat → va_E} {nn : Nat} {σ : sg} (hn : zg_B G + 28 ≤ nn) {r i j v : Int32} (ho : okG σ) : zc G l yX8_into cX8_into 6 (some .int) 3 [.ref (zg_B G + 18), .int r, .int i, .int j, .int v] (ms G g σ, nn) 0 0 (fun o h' => o = some (.int (a_into σ r i j)) ∧ h' = (ms G g (t_into σ r i j v), nn)) := by
  refine zc.of (by decide) (Nat.le_of_ble_eq_true rfl) ?_
  refine zv_iload_n dX8_into_0 rfl ?_
  refine zv_callSq (mc := 0) (ms := 0) zm_X8_57 zkyX8_no cM_no rfl rfl (Nat.le_of_ble_eq_true rfl) (by decide) dX8_into_1 ?_
  refine zv_if_eq (tgt := 9) dX8_into_4 (by decide) (fun c4 => ?_) (fun c4 => ?_)
  · skip
    refine zv_aload_n dX8_into_9 rfl ?_
    refine zv_iload_n dX8_into_10 rfl ?_
    refine zv_iload_n dX8_into_11 rfl ?_
    refine zM_callg hn zm_X8_153 zkyX8_finds rfl (cM_finds hn (no_in (zb_0.mp (by assumption))) (ho.1.1 _ (no_in (zb_0.mp (by assumption))))) rfl rfl (Nat.le_of_ble_eq_true rfl) (by decide) dX8_into_12 (fun σ12 e12 => ?_)
    refine zv_istore dX8_into_15 (by decide) ?_
    refine zv_iload dX8_into_17 rfl ?_
    refine zv_if_le (tgt := 27) dX8_into_19 (by decide) (fun c19 => ?_) (fun c19 => ?_)
    · skip
      refine zv_aload_n dX8_into_27 rfl ?_
      refine zv_aload_n dX8_into_28 rfl ?_
      refine zM_get hn zf_X8_147_6 rfl dX8_into_29 ?_
      refine zv_aload_n dX8_into_32 rfl ?_
      refine zM_get hn zf_X8_150_6 rfl dX8_into_33 ?_
      refine zv_iload_n dX8_into_36 rfl ?_
      refine zv_iconstv (v := 4) dX8_into_37 (by decide) ?_
      refine zv_iload dX8_into_38 rfl ?_
      refine zv_i2l dX8_into_40 ?_
      refine zM_callg hn zm_X8_140 zkyX8_doWrite rfl (cM_doWrite hn (by subst e12; exact ho.2.2 _ _ (no_in (zb_0.mp (by assumption))) (by assumption))) rfl rfl (Nat.le_of_ble_eq_true rfl) (by decide) dX8_into_41 (fun σ41 e41 => ?_)
      refine zv_istore dX8_into_44 (by decide) ?_
      refine zv_aload_n dX8_into_46 rfl ?_
      refine zv_iload dX8_into_47 rfl ?_
      refine zv_iconstv (v := 1) dX8_into_49 (by decide) ?_
      refine zM_call hn zm_X8_121 zkyX8_answer rfl (cM_answer hn (fun _ => by first | with_reducible exact gF_in _ _ _ _ | with_reducible exact wF_in _ _ _ _ _)) rfl rfl (Nat.le_of_ble_eq_true rfl) (by decide) dX8_into_50 ?_
      exact zv_ireturn dX8_into_53 rfl (by refine ⟨?_, ?_⟩ <;> simp_all [-Int32.not_lt, -Int32.not_le, ← Int32.not_lt, xT, xW, xK, xS, xF, xP, zb_0, zb_n, out_bey, bey_9, bey_10, bey_16, bey_7, bey_4, bey_5, bey_3, bey_m, bey_e, a_into, t_into, s_inF, s_inS])
    · skip
      refine zv_iload dX8_into_22 rfl ?_
      refine zv_goto (tgt := 44) dX8_into_24 (by decide) ?_
      refine zv_istore dX8_into_44 (by decide) ?_
      refine zv_aload_n dX8_into_46 rfl ?_
      refine zv_iload dX8_into_47 rfl ?_
      refine zv_iconstv (v := 1) dX8_into_49 (by decide) ?_
      refine zM_call hn zm_X8_121 zkyX8_answer rfl (cM_answer hn (fun _ => by first | with_reducible exact gF_in _ _ _ _ | with_reducible exact wF_in _ _ _ _ _)) rfl rfl (Nat.le_of_ble_eq_true rfl) (by decide) dX8_into_50 ?_
      exact zv_ireturn dX8_into_53 rfl (by refine ⟨?_, ?_⟩ <;> simp_all [-Int32.not_lt, -Int32.not_le, ← Int32.not_lt, xT, xW, xK, xS, xF, xP, zb_0, zb_n, out_bey, bey_9, bey_10, bey_16, bey_7, bey_4, bey_5, bey_3, bey_m, bey_e, a_into, t_into, s_inF, s_inS])
  · skip
    refine zv_iconstv (v := (-1)) dX8_into_7 (by decide) ?_
    exact zv_ireturn dX8_into_8 rfl (by refine ⟨?_, ?_⟩ <;> simp_all [-Int32.not_lt, -Int32.not_le, ← Int32.not_lt, xT, xW, xK, xS, xF, xP, zb_0, zb_n, out_bey, bey_9, bey_10, bey_16, bey_7, bey_4, bey_5, bey_3, bey_m, bey_e, a_into, t_into, s_inF, s_inS])
set_option maxRecDepth 20000 in
set_option maxHeartbeats 1000000 in
theorem cM_met {G : zh_G} {l : Launch} {g : Nat → va_E} {nn : Nat} {σ : sg} (hn : zg_B G + 28 ≤ nn) {k : Int32} (hD : s_rng k 0 (σ.1 14 - 1) = false → vp_in k 12) : zc G l yX8_met cX8_met 2 (some .int) 1 [.ref (zg_B G + 18), .int k] (ms G g σ, nn) 0 0 (fun o h' => o = some (.int (a_met σ k)) ∧ h' = (ms G g σ, nn)) := by
  refine zc.of (by decide) (Nat.le_of_ble_eq_true rfl) ?_
  refine zv_iload_n dX8_met_0 rfl ?_
  refine zv_i2l dX8_met_1 ?_
  refine zv_lconstv (v := 0) dX8_met_2 (by decide) ?_
  refine zv_aload_n dX8_met_3 rfl ?_
  refine zM_get hn zf_X8_176_6 rfl dX8_met_4 ?_
  refine zv_iconstv (v := 1) dX8_met_7 (by decide) ?_
  refine zv_isub dX8_met_8 ?_
  refine zv_i2l dX8_met_9 ?_
  refine zv_callSq (mc := 0) (ms := 0) zm_X8_42 zkyX8_beyond cM_beyond rfl rfl (Nat.le_of_ble_eq_true rfl) (by decide) dX8_met_10 ?_
  refine zv_if_eq (tgt := 21) dX8_met_13 (by decide) (fun c13 => ?_) (fun c13 => ?_)
  · skip
    refine zv_aload_n dX8_met_21 rfl ?_
    refine zM_get hn zf_X8_34_6 rfl dX8_met_22 ?_
    refine zv_iload_n dX8_met_25 rfl ?_
    refine zM_ald15 hn (hD (by simp_all [zb_0, bey_e])) dX8_met_26 ?_
    exact zv_ireturn dX8_met_27 rfl (by refine ⟨?_, ?_⟩ <;> simp_all [-Int32.not_lt, -Int32.not_le, ← Int32.not_lt, xT, xW, xK, xS, xF, xP, zb_0, zb_n, out_bey, bey_9, bey_10, bey_16, bey_7, bey_4, bey_5, bey_3, bey_m, bey_e, a_met])
  · skip
    refine zv_bipushv (v := (-9)) dX8_met_16 (by decide) ?_
    refine zv_goto (tgt := 27) dX8_met_18 (by decide) ?_
    exact zv_ireturn dX8_met_27 rfl (by refine ⟨?_, ?_⟩ <;> simp_all [-Int32.not_lt, -Int32.not_le, ← Int32.not_lt, xT, xW, xK, xS, xF, xP, zb_0, zb_n, out_bey, bey_9, bey_10, bey_16, bey_7, bey_4, bey_5, bey_3, bey_m, bey_e, a_met])
set_option maxRecDepth 20000 in
set_option maxHeartbeats 1000000 in
theorem cM_clear {G : zh_G} {l : Launch} {g : Nat → va_E} {nn : Nat} {σ : sg} (hn : zg_B G + 28 ≤ nn)  : zc G l yX8_clear cX8_clear 2 (some .int) 0 [.ref (zg_B G + 18)] (ms G g σ, nn) 0 0 (fun o h' => o = some (.int (σ.1 12)) ∧ h' = (ms G g (t_clear σ), nn)) := by
  refine zc.of (by decide) (Nat.le_of_ble_eq_true rfl) ?_
  refine zv_aload_n dX8_clear_0 rfl ?_
  refine zM_get hn zf_X8_170_6 rfl dX8_clear_1 ?_
  refine zv_istore_n dX8_clear_4 (by decide) ?_
  refine zv_aload_n dX8_clear_5 rfl ?_
  refine zv_iconstv (v := 0) dX8_clear_6 (by decide) ?_
  refine zM_put12 hn zfw_X8_170_6 dX8_clear_7 ?_
  refine zv_aload_n dX8_clear_10 rfl ?_
  refine zv_iconstv (v := 0) dX8_clear_11 (by decide) ?_
  refine zM_put14 hn zfw_X8_176_6 dX8_clear_12 ?_
  refine zv_iload_n dX8_clear_15 rfl ?_
  exact zv_ireturn dX8_clear_16 rfl (by refine ⟨?_, ?_⟩ <;> simp_all [-Int32.not_lt, -Int32.not_le, ← Int32.not_lt, xT, xW, xK, xS, xF, xP, zb_0, zb_n, out_bey, bey_9, bey_10, bey_16, bey_7, bey_4, bey_5, bey_3, bey_m, bey_e, t_clear])
set_option maxRecDepth 20000 in
set_option maxHeartbeats 1000000 in
theorem cM_fault {G : zh_G} {l : Launch} {g : Nat → va_E} {nn : Nat} {σ : sg} (hn : zg_B G + 28 ≤ nn)  : zc G l yX8_fault cX8_fault 1 (some .int) 0 [.ref (zg_B G + 18)] (ms G g σ, nn) 0 0 (fun o h' => o = some (.int (σ.1 16)) ∧ h' = (ms G g σ, nn)) := by
  refine zc.of (by decide) (Nat.le_of_ble_eq_true rfl) ?_
  refine zv_aload_n dX8_fault_0 rfl ?_
  refine zM_get hn zf_X8_46_6 rfl dX8_fault_1 ?_
  exact zv_ireturn dX8_fault_4 rfl (by refine ⟨?_, ?_⟩ <;> simp_all [-Int32.not_lt, -Int32.not_le, ← Int32.not_lt, xT, xW, xK, xS, xF, xP, zb_0, zb_n, out_bey, bey_9, bey_10, bey_16, bey_7, bey_4, bey_5, bey_3, bey_m, bey_e])
set_option maxRecDepth 20000 in
set_option maxHeartbeats 1000000 in
theorem cM_faults {G : zh_G} {l : Launch} {g : Nat → va_E} {nn : Nat} {σ : sg} (hn : zg_B G + 28 ≤ nn) {k : Int32} : zc G l yX8_faults cX8_faults 2 (some .int) 1 [.ref (zg_B G + 18), .int k] (ms G g σ, nn) 0 0 (fun o h' => o = some (.int (a_faults σ k)) ∧ h' = (ms G g σ, nn)) := by
  refine zc.of (by decide) (Nat.le_of_ble_eq_true rfl) ?_
  refine zv_iload_n dX8_faults_0 rfl ?_
  refine zv_i2l dX8_faults_1 ?_
  refine zv_lconstv (v := 0) dX8_faults_2 (by decide) ?_
  refine zv_ldc2 dX8_faults_3 zq_X8_182 ?_
  refine zv_callSq (mc := 0) (ms := 0) zm_X8_42 zkyX8_beyond cM_beyond rfl rfl (Nat.le_of_ble_eq_true rfl) (by decide) dX8_faults_6 ?_
  refine zv_if_eq (tgt := 17) dX8_faults_9 (by decide) (fun c9 => ?_) (fun c9 => ?_)
  · skip
    refine zv_aload_n dX8_faults_17 rfl ?_
    refine zM_get hn zf_X8_37_6 rfl dX8_faults_18 ?_
    refine zv_iload_n dX8_faults_21 rfl ?_
    refine zM_ald17 hn (rng3_in (by simp_all [zb_0, bey_3])) dX8_faults_22 ?_
    exact zv_ireturn dX8_faults_23 rfl (by refine ⟨?_, ?_⟩ <;> simp_all [-Int32.not_lt, -Int32.not_le, ← Int32.not_lt, xT, xW, xK, xS, xF, xP, zb_0, zb_n, out_bey, bey_9, bey_10, bey_16, bey_7, bey_4, bey_5, bey_3, bey_m, bey_e, a_faults])
  · skip
    refine zv_bipushv (v := (-9)) dX8_faults_12 (by decide) ?_
    refine zv_goto (tgt := 23) dX8_faults_14 (by decide) ?_
    exact zv_ireturn dX8_faults_23 rfl (by refine ⟨?_, ?_⟩ <;> simp_all [-Int32.not_lt, -Int32.not_le, ← Int32.not_lt, xT, xW, xK, xS, xF, xP, zb_0, zb_n, out_bey, bey_9, bey_10, bey_16, bey_7, bey_4, bey_5, bey_3, bey_m, bey_e, a_faults])
set_option maxRecDepth 20000 in
set_option maxHeartbeats 1000000 in
theorem cM_told {G : zh_G} {l : Launch} {g : Nat → va_E} {nn : Nat} {σ : sg} (hn : zg_B G + 28 ≤ nn) {r : Int32} (h3 : vp_in r 10 → xT σ r = 3 → vp_in (xW σ r) 5000) (h2 : vp_in r 10 → ¬ xT σ r = 0 → ¬ xT σ r = 3 → vp_in (xW σ r) 41) : zc G l yX8_told cX8_told 3 (some .int) 2 [.ref (zg_B G + 18), .int r] (ms G g σ, nn) 0 0 (fun o h' => o = some (.int (a_told σ r)) ∧ h' = (ms G g σ, nn)) := by
  refine zc.of (by decide) (Nat.le_of_ble_eq_true rfl) ?_
  refine zv_iload_n dX8_told_0 rfl ?_
  refine zv_callSq (mc := 0) (ms := 0) zm_X8_57 zkyX8_no cM_no rfl rfl (Nat.le_of_ble_eq_true rfl) (by decide) dX8_told_1 ?_
  refine zv_if_eq (tgt := 9) dX8_told_4 (by decide) (fun c4 => ?_) (fun c4 => ?_)
  · skip
    refine zv_aload_n dX8_told_9 rfl ?_
    refine zM_get hn zf_X8_13_6 rfl dX8_told_10 ?_
    refine zv_iload_n dX8_told_13 rfl ?_
    refine zM_ald1 hn (by first | with_reducible exact (no_in (zb_0.mp (by assumption))) | with_reducible exact h3 (no_in (zb_0.mp (by assumption))) (by assumption) | with_reducible exact h2 (no_in (zb_0.mp (by assumption))) (by assumption) (by assumption)) dX8_told_14 ?_
    refine zv_istore_n dX8_told_15 (by decide) ?_
    refine zv_aload_n dX8_told_16 rfl ?_
    refine zM_get hn zf_X8_7_6 rfl dX8_told_17 ?_
    refine zv_iload_n dX8_told_20 rfl ?_
    refine zM_ald0 hn (by first | with_reducible exact (no_in (zb_0.mp (by assumption))) | with_reducible exact h3 (no_in (zb_0.mp (by assumption))) (by assumption) | with_reducible exact h2 (no_in (zb_0.mp (by assumption))) (by assumption) (by assumption)) dX8_told_21 ?_
    refine zv_if_ne (tgt := 30) dX8_told_22 (by decide) (fun c22 => ?_) (fun c22 => ?_)
    · skip
      refine zv_aload_n dX8_told_30 rfl ?_
      refine zM_get hn zf_X8_7_6 rfl dX8_told_31 ?_
      refine zv_iload_n dX8_told_34 rfl ?_
      refine zM_ald0 hn (by first | with_reducible exact (no_in (zb_0.mp (by assumption))) | with_reducible exact h3 (no_in (zb_0.mp (by assumption))) (by assumption) | with_reducible exact h2 (no_in (zb_0.mp (by assumption))) (by assumption) (by assumption)) dX8_told_35 ?_
      refine zv_iconstv (v := 3) dX8_told_36 (by decide) ?_
      refine zv_icmp_ne (tgt := 49) dX8_told_37 (by decide) (fun c37 => ?_) (fun c37 => ?_)
      · skip
        refine zv_aload_n dX8_told_49 rfl ?_
        refine zM_get hn zf_X8_16_6 rfl dX8_told_50 ?_
        refine zv_iload_n dX8_told_53 rfl ?_
        refine zM_ald7 hn (by first | with_reducible exact (no_in (zb_0.mp (by assumption))) | with_reducible exact h3 (no_in (zb_0.mp (by assumption))) (by assumption) | with_reducible exact h2 (no_in (zb_0.mp (by assumption))) (by assumption) (by assumption)) dX8_told_54 ?_
        refine zv_if_eq (tgt := 63) dX8_told_55 (by decide) (fun c55 => ?_) (fun c55 => ?_)
        · skip
          refine zv_bipushv (v := 11) dX8_told_63 (by decide) ?_
          exact zv_ireturn dX8_told_65 rfl (by refine ⟨?_, ?_⟩ <;> simp_all [-Int32.not_lt, -Int32.not_le, ← Int32.not_lt, xT, xW, xK, xS, xF, xP, zb_0, zb_n, out_bey, bey_9, bey_10, bey_16, bey_7, bey_4, bey_5, bey_3, bey_m, bey_e, a_told])
        · skip
          refine zv_bipushv (v := 12) dX8_told_58 (by decide) ?_
          refine zv_goto (tgt := 65) dX8_told_60 (by decide) ?_
          exact zv_ireturn dX8_told_65 rfl (by refine ⟨?_, ?_⟩ <;> simp_all [-Int32.not_lt, -Int32.not_le, ← Int32.not_lt, xT, xW, xK, xS, xF, xP, zb_0, zb_n, out_bey, bey_9, bey_10, bey_16, bey_7, bey_4, bey_5, bey_3, bey_m, bey_e, a_told])
      · skip
        refine zv_aload_n dX8_told_40 rfl ?_
        refine zM_get hn zf_X8_20_6 rfl dX8_told_41 ?_
        refine zv_iload_n dX8_told_44 rfl ?_
        refine zM_ald9 hn (by first | with_reducible exact (no_in (zb_0.mp (by assumption))) | with_reducible exact h3 (no_in (zb_0.mp (by assumption))) (by assumption) | with_reducible exact h2 (no_in (zb_0.mp (by assumption))) (by assumption) (by assumption)) dX8_told_45 ?_
        refine zv_goto (tgt := 65) dX8_told_46 (by decide) ?_
        exact zv_ireturn dX8_told_65 rfl (by refine ⟨?_, ?_⟩ <;> simp_all [-Int32.not_lt, -Int32.not_le, ← Int32.not_lt, xT, xW, xK, xS, xF, xP, zb_0, zb_n, out_bey, bey_9, bey_10, bey_16, bey_7, bey_4, bey_5, bey_3, bey_m, bey_e, a_told])
    · skip
      refine zv_bipushv (v := (-9)) dX8_told_25 (by decide) ?_
      refine zv_goto (tgt := 65) dX8_told_27 (by decide) ?_
      exact zv_ireturn dX8_told_65 rfl (by refine ⟨?_, ?_⟩ <;> simp_all [-Int32.not_lt, -Int32.not_le, ← Int32.not_lt, xT, xW, xK, xS, xF, xP, zb_0, zb_n, out_bey, bey_9, bey_10, bey_16, bey_7, bey_4, bey_5, bey_3, bey_m, bey_e, a_told])
  · skip
    refine zv_iconstv (v := (-1)) dX8_told_7 (by decide) ?_
    exact zv_ireturn dX8_told_8 rfl (by refine ⟨?_, ?_⟩ <;> simp_all [-Int32.not_lt, -Int32.not_le, ← Int32.not_lt, xT, xW, xK, xS, xF, xP, zb_0, zb_n, out_bey, bey_9, bey_10, bey_16, bey_7, bey_4, bey_5, bey_3, bey_m, bey_e, a_told])
set_option maxRecDepth 20000 in
set_option maxHeartbeats 1000000 in
theorem cM_step {G : zh_G} {l : Launch} {g : Nat → va_E} {nn : Nat} {σ : sg} (hn : zg_B G + 28 ≤ nn) {op a i b k : Int32} (hS : ¬ σ.1 12 = 12 → vp_in (5 * σ.1 12) 60 ∧ vp_in (5 * σ.1 12 + 1) 60 ∧ vp_in (5 * σ.1 12 + 2) 60 ∧ vp_in (5 * σ.1 12 + 3) 60 ∧ vp_in (5 * σ.1 12 + 4) 60) : zc G l yX8_step cX8_step 7 (some .int) 2 [.ref (zg_B G + 18), .int op, .int a, .int i, .int b, .int k] (ms G g σ, nn) 0 0 (fun o h' => o = some (.int (a_step σ op a i b k)) ∧ h' = (ms G g (t_step σ op a i b k), nn)) := by
  refine zc.of (by decide) (Nat.le_of_ble_eq_true rfl) ?_
  refine zv_iload_n dX8_step_0 rfl ?_
  refine zv_callSq (mc := 0) (ms := 0) zm_X8_57 zkyX8_no cM_no rfl rfl (Nat.le_of_ble_eq_true rfl) (by decide) dX8_step_1 ?_
  refine zv_if_ne (tgt := 15) dX8_step_4 (by decide) (fun c4 => ?_) (fun c4 => ?_)
  · skip
    refine zv_iconstv (v := (-1)) dX8_step_15 (by decide) ?_
    exact zv_ireturn dX8_step_16 rfl (by refine ⟨?_, ?_⟩ <;> simp_all [-Int32.not_lt, -Int32.not_le, ← Int32.not_lt, xT, xW, xK, xS, xF, xP, zb_0, zb_n, out_bey, bey_9, bey_10, bey_16, bey_7, bey_4, bey_5, bey_3, bey_m, bey_e, a_step, t_step, s_st5, sa, si, va_up, upd])
  · skip
    refine zv_iload dX8_step_7 rfl ?_
    refine zv_callSq (mc := 0) (ms := 0) zm_X8_57 zkyX8_no cM_no rfl rfl (Nat.le_of_ble_eq_true rfl) (by decide) dX8_step_9 ?_
    refine zv_if_eq (tgt := 17) dX8_step_12 (by decide) (fun c12 => ?_) (fun c12 => ?_)
    · skip
      refine zv_iload_n dX8_step_17 rfl ?_
      refine zv_i2l dX8_step_18 ?_
      refine zv_lconstv (v := 0) dX8_step_19 (by decide) ?_
      refine zv_ldc2 dX8_step_20 zq_X8_166 ?_
      refine zv_callSq (mc := 0) (ms := 0) zm_X8_42 zkyX8_beyond cM_beyond rfl rfl (Nat.le_of_ble_eq_true rfl) (by decide) dX8_step_23 ?_
      refine zv_if_ne (tgt := 56) dX8_step_26 (by decide) (fun c26 => ?_) (fun c26 => ?_)
      · skip
        refine zv_bipushv (v := (-2)) dX8_step_56 (by decide) ?_
        exact zv_ireturn dX8_step_58 rfl (by refine ⟨?_, ?_⟩ <;> simp_all [-Int32.not_lt, -Int32.not_le, ← Int32.not_lt, xT, xW, xK, xS, xF, xP, zb_0, zb_n, out_bey, bey_9, bey_10, bey_16, bey_7, bey_4, bey_5, bey_3, bey_m, bey_e, a_step, t_step, s_st5, sa, si, va_up, upd])
      · skip
        refine zv_iload_n dX8_step_29 rfl ?_
        refine zv_i2l dX8_step_30 ?_
        refine zv_ldc2 dX8_step_31 zq_X8_168 ?_
        refine zv_ldc2 dX8_step_34 zq_X8_63 ?_
        refine zv_callSq (mc := 0) (ms := 0) zm_X8_42 zkyX8_beyond cM_beyond rfl rfl (Nat.le_of_ble_eq_true rfl) (by decide) dX8_step_37 ?_
        refine zv_if_ne (tgt := 56) dX8_step_40 (by decide) (fun c40 => ?_) (fun c40 => ?_)
        · skip
          refine zv_bipushv (v := (-2)) dX8_step_56 (by decide) ?_
          exact zv_ireturn dX8_step_58 rfl (by refine ⟨?_, ?_⟩ <;> simp_all [-Int32.not_lt, -Int32.not_le, ← Int32.not_lt, xT, xW, xK, xS, xF, xP, zb_0, zb_n, out_bey, bey_9, bey_10, bey_16, bey_7, bey_4, bey_5, bey_3, bey_m, bey_e, a_step, t_step, s_st5, sa, si, va_up, upd])
        · skip
          refine zv_iload dX8_step_43 rfl ?_
          refine zv_i2l dX8_step_45 ?_
          refine zv_lconstv (v := 0) dX8_step_46 (by decide) ?_
          refine zv_ldc2 dX8_step_47 zq_X8_82 ?_
          refine zv_callSq (mc := 0) (ms := 0) zm_X8_42 zkyX8_beyond cM_beyond rfl rfl (Nat.le_of_ble_eq_true rfl) (by decide) dX8_step_50 ?_
          refine zv_if_eq (tgt := 59) dX8_step_53 (by decide) (fun c53 => ?_) (fun c53 => ?_)
          · skip
            refine zv_aload_n dX8_step_59 rfl ?_
            refine zM_get hn zf_X8_170_6 rfl dX8_step_60 ?_
            refine zv_bipushv (v := 12) dX8_step_63 (by decide) ?_
            refine zv_icmp_ne (tgt := 71) dX8_step_65 (by decide) (fun c65 => ?_) (fun c65 => ?_)
            · skip
              refine zv_iconstv (v := 5) dX8_step_71 (by decide) ?_
              refine zv_aload_n dX8_step_72 rfl ?_
              refine zM_get hn zf_X8_170_6 rfl dX8_step_73 ?_
              refine zv_imul dX8_step_76 ?_
              refine zv_istore dX8_step_77 (by decide) ?_
              refine zv_aload_n dX8_step_79 rfl ?_
              refine zM_get hn zf_X8_31_6 rfl dX8_step_80 ?_
              refine zv_iload dX8_step_83 rfl ?_
              refine zv_iload_n dX8_step_85 rfl ?_
              refine zM_ast13 hn (by have z := hS (by assumption); first | with_reducible exact z.1 | with_reducible exact z.2.1 | with_reducible exact z.2.2.1 | with_reducible exact z.2.2.2.1 | with_reducible exact z.2.2.2.2) dX8_step_86 ?_
              refine zv_aload_n dX8_step_87 rfl ?_
              refine zM_get hn zf_X8_31_6 rfl dX8_step_88 ?_
              refine zv_iload dX8_step_91 rfl ?_
              refine zv_iconstv (v := 1) dX8_step_93 (by decide) ?_
              refine zv_iadd dX8_step_94 ?_
              refine zv_iload_n dX8_step_95 rfl ?_
              refine zM_ast13 hn (by have z := hS (by assumption); first | with_reducible exact z.1 | with_reducible exact z.2.1 | with_reducible exact z.2.2.1 | with_reducible exact z.2.2.2.1 | with_reducible exact z.2.2.2.2) dX8_step_96 ?_
              refine zv_aload_n dX8_step_97 rfl ?_
              refine zM_get hn zf_X8_31_6 rfl dX8_step_98 ?_
              refine zv_iload dX8_step_101 rfl ?_
              refine zv_iconstv (v := 2) dX8_step_103 (by decide) ?_
              refine zv_iadd dX8_step_104 ?_
              refine zv_iload_n dX8_step_105 rfl ?_
              refine zM_ast13 hn (by have z := hS (by assumption); first | with_reducible exact z.1 | with_reducible exact z.2.1 | with_reducible exact z.2.2.1 | with_reducible exact z.2.2.2.1 | with_reducible exact z.2.2.2.2) dX8_step_106 ?_
              refine zv_aload_n dX8_step_107 rfl ?_
              refine zM_get hn zf_X8_31_6 rfl dX8_step_108 ?_
              refine zv_iload dX8_step_111 rfl ?_
              refine zv_iconstv (v := 3) dX8_step_113 (by decide) ?_
              refine zv_iadd dX8_step_114 ?_
              refine zv_iload dX8_step_115 rfl ?_
              refine zM_ast13 hn (by have z := hS (by assumption); first | with_reducible exact z.1 | with_reducible exact z.2.1 | with_reducible exact z.2.2.1 | with_reducible exact z.2.2.2.1 | with_reducible exact z.2.2.2.2) dX8_step_117 ?_
              refine zv_aload_n dX8_step_118 rfl ?_
              refine zM_get hn zf_X8_31_6 rfl dX8_step_119 ?_
              refine zv_iload dX8_step_122 rfl ?_
              refine zv_iconstv (v := 4) dX8_step_124 (by decide) ?_
              refine zv_iadd dX8_step_125 ?_
              refine zv_iload dX8_step_126 rfl ?_
              refine zM_ast13 hn (by have z := hS (by assumption); first | with_reducible exact z.1 | with_reducible exact z.2.1 | with_reducible exact z.2.2.1 | with_reducible exact z.2.2.2.1 | with_reducible exact z.2.2.2.2) dX8_step_128 ?_
              refine zv_aload_n dX8_step_129 rfl ?_
              refine zv_dup dX8_step_130 rfl ?_
              refine zM_get hn zf_X8_170_6 rfl dX8_step_131 ?_
              refine zv_iconstv (v := 1) dX8_step_134 (by decide) ?_
              refine zv_iadd dX8_step_135 ?_
              refine zM_put12 hn zfw_X8_170_6 dX8_step_136 ?_
              refine zv_aload_n dX8_step_139 rfl ?_
              refine zM_get hn zf_X8_170_6 rfl dX8_step_140 ?_
              exact zv_ireturn dX8_step_143 rfl (by refine ⟨?_, ?_⟩ <;> simp_all [-Int32.not_lt, -Int32.not_le, ← Int32.not_lt, xT, xW, xK, xS, xF, xP, zb_0, zb_n, out_bey, bey_9, bey_10, bey_16, bey_7, bey_4, bey_5, bey_3, bey_m, bey_e, a_step, t_step, s_st5, sa, si, va_up, upd])
            · skip
              refine zv_bipushv (v := (-4)) dX8_step_68 (by decide) ?_
              exact zv_ireturn dX8_step_70 rfl (by refine ⟨?_, ?_⟩ <;> simp_all [-Int32.not_lt, -Int32.not_le, ← Int32.not_lt, xT, xW, xK, xS, xF, xP, zb_0, zb_n, out_bey, bey_9, bey_10, bey_16, bey_7, bey_4, bey_5, bey_3, bey_m, bey_e, a_step, t_step, s_st5, sa, si, va_up, upd])
          · skip
            refine zv_bipushv (v := (-2)) dX8_step_56 (by decide) ?_
            exact zv_ireturn dX8_step_58 rfl (by refine ⟨?_, ?_⟩ <;> simp_all [-Int32.not_lt, -Int32.not_le, ← Int32.not_lt, xT, xW, xK, xS, xF, xP, zb_0, zb_n, out_bey, bey_9, bey_10, bey_16, bey_7, bey_4, bey_5, bey_3, bey_m, bey_e, a_step, t_step, s_st5, sa, si, va_up, upd])
    · skip
      refine zv_iconstv (v := (-1)) dX8_step_15 (by decide) ?_
      exact zv_ireturn dX8_step_16 rfl (by refine ⟨?_, ?_⟩ <;> simp_all [-Int32.not_lt, -Int32.not_le, ← Int32.not_lt, xT, xW, xK, xS, xF, xP, zb_0, zb_n, out_bey, bey_9, bey_10, bey_16, bey_7, bey_4, bey_5, bey_3, bey_m, bey_e, a_step, t_step, s_st5, sa, si, va_up, upd])
