set_option maxRecDepth 20000 in
set_option maxHeartbeats 1000000 in
theorem cM_kinds_l {G : zh_G} {l : Launch} {g : Nat → va_E} {nn : Nat} (hn : zg_B G + 28 ≤ nn) {σ : sg} {r w : Int32} {Q : Option Value → zh_H → Prop} (hr : vp_in r 10) (hq : vp_in (xW σ r) 5000) : ∀ (m j : Nat) (acc : Int32), j + m = 8 → (∀ acc2 : Int32, acc2 = s_bits (s_kp (decide (¬ w = 0)) (xK σ (xW σ r))) m j acc → zv G l yX8_kinds cX8_kinds 7 (some .int) 2 0 0 89 [(4, .int acc2), (3, .int 0), (0, .ref (zg_B G + 18)), (1, .int r), (2, .int w)] [] (ms G g σ, nn) Q) → zv G l yX8_kinds cX8_kinds 7 (some .int) 2 0 0 12 [(5, .int (nI j)), (4, .int acc), (3, .int 0), (0, .ref (zg_B G + 18)), (1, .int r), (2, .int w)] [] (ms G g σ, nn) Q := by
  intro m
  induction m with
  | zero =>
    intro j acc hj kx
    have hj : j = 8 := by omega
    subst hj
    refine zv_iload dX8_kinds_12 rfl ?_
    refine zv_bipushv (v := 8) dX8_kinds_14 (by decide) ?_
    exact zv_icmp_ge (tgt := 89) dX8_kinds_16 (by decide) (fun _ => zv_lv _ (by simp) (kx acc rfl)) (fun c => absurd (by decide) c)
  | succ m ih =>
    intro j acc hj kx
    refine zv_iload dX8_kinds_12 rfl ?_
    refine zv_bipushv (v := 8) dX8_kinds_14 (by decide) ?_
    refine zv_icmp_ge (tgt := 89) dX8_kinds_16 (by decide) (fun c16 => ?_) (fun c16 => ?_)
    · exact absurd c16 (by rw [show (8 : Int32) = nI 8 from rfl]; exact nI_ge (by omega) (by decide))
    · skip
      refine zv_iload_n dX8_kinds_19 rfl ?_
      refine zv_if_ne (tgt := 89) dX8_kinds_20 (by decide) (fun c20 => ?_) (fun c20 => ?_)
      · exact absurd rfl c20
      · skip
        refine zv_aload_n dX8_kinds_23 rfl ?_
        refine zM_get hn zf_X8_20_6 rfl dX8_kinds_24 ?_
        refine zv_aload_n dX8_kinds_27 rfl ?_
        refine zM_get hn zf_X8_13_6 rfl dX8_kinds_28 ?_
        refine zv_iload_n dX8_kinds_31 rfl ?_
        refine zM_ald1 hn (by first | with_reducible exact hr | with_reducible exact hq) dX8_kinds_32 ?_
        refine zM_ald9 hn (by first | with_reducible exact hr | with_reducible exact hq) dX8_kinds_33 ?_
        refine zv_istore dX8_kinds_34 (by decide) ?_
        refine zv_iload dX8_kinds_36 rfl ?_
        refine zv_iload dX8_kinds_38 rfl ?_
        refine zv_bipushv (v := 8) dX8_kinds_40 (by decide) ?_
        refine zv_icmp_ge (tgt := 79) dX8_kinds_42 (by decide) (fun c42 => ?_) (fun c42 => ?_)
        · skip
          refine zv_iconstv (v := 0) dX8_kinds_79 (by decide) ?_
          refine zv_ior dX8_kinds_80 ?_
          refine zv_istore dX8_kinds_81 (by decide) ?_
          refine zv_iinc dX8_kinds_83 rfl (by decide) ?_
          refine zv_goto (tgt := 12) dX8_kinds_86 (by decide) ?_
          have hp : s_kp (decide (¬ w = 0)) (xK σ (xW σ r)) j = false := by simp_all [-Int32.not_lt, -Int32.not_le, ← Int32.not_lt, s_kp, zb_0, zb_n]
          refine zv_lv [(5, .int (nI (j + 1))), (4, .int (acc ||| 0)), (3, .int 0), (0, .ref (zg_B G + 18)), (1, .int r), (2, .int w)] (by simp [zs1, Value.category, nI_succ]) ?_
          exact ih (j + 1) _ (by omega) (fun acc2 e2 => kx acc2 (by rw [e2]; show _ = s_bits _ m (j + 1) (acc ||| (if s_kp (decide (¬ w = 0)) (xK σ (xW σ r)) j = true then (1 : Int32) <<< (nI j &&& 31) else 0)); rw [hp]; rfl))
        · skip
          refine zv_iload_n dX8_kinds_45 rfl ?_
          refine zv_if_eq (tgt := 62) dX8_kinds_46 (by decide) (fun c46 => ?_) (fun c46 => ?_)
          · skip
            refine zv_iload dX8_kinds_62 rfl ?_
            refine zv_iload dX8_kinds_64 rfl ?_
            refine zv_callSq (mc := 0) (ms := 0) zm_X8_100 zkyX8_goes cM_goes rfl rfl (Nat.le_of_ble_eq_true rfl) (by decide) dX8_kinds_66 ?_
            refine zv_if_eq (tgt := 79) dX8_kinds_69 (by decide) (fun c69 => ?_) (fun c69 => ?_)
            · skip
              refine zv_iconstv (v := 0) dX8_kinds_79 (by decide) ?_
              refine zv_ior dX8_kinds_80 ?_
              refine zv_istore dX8_kinds_81 (by decide) ?_
              refine zv_iinc dX8_kinds_83 rfl (by decide) ?_
              refine zv_goto (tgt := 12) dX8_kinds_86 (by decide) ?_
              have hp : s_kp (decide (¬ w = 0)) (xK σ (xW σ r)) j = false := by simp_all [-Int32.not_lt, -Int32.not_le, ← Int32.not_lt, s_kp, zb_0, zb_n]
              refine zv_lv [(5, .int (nI (j + 1))), (4, .int (acc ||| 0)), (3, .int 0), (0, .ref (zg_B G + 18)), (1, .int r), (2, .int w)] (by simp [zs1, Value.category, nI_succ]) ?_
              exact ih (j + 1) _ (by omega) (fun acc2 e2 => kx acc2 (by rw [e2]; show _ = s_bits _ m (j + 1) (acc ||| (if s_kp (decide (¬ w = 0)) (xK σ (xW σ r)) j = true then (1 : Int32) <<< (nI j &&& 31) else 0)); rw [hp]; rfl))
            · skip
              refine zv_iconstv (v := 1) dX8_kinds_72 (by decide) ?_
              refine zv_iload dX8_kinds_73 rfl ?_
              refine zv_ishl dX8_kinds_75 ?_
              refine zv_goto (tgt := 80) dX8_kinds_76 (by decide) ?_
              refine zv_ior dX8_kinds_80 ?_
              refine zv_istore dX8_kinds_81 (by decide) ?_
              refine zv_iinc dX8_kinds_83 rfl (by decide) ?_
              refine zv_goto (tgt := 12) dX8_kinds_86 (by decide) ?_
              have hp : s_kp (decide (¬ w = 0)) (xK σ (xW σ r)) j = true := by simp_all [-Int32.not_lt, -Int32.not_le, ← Int32.not_lt, s_kp, zb_0, zb_n]
              refine zv_lv [(5, .int (nI (j + 1))), (4, .int (acc ||| ((1 : Int32) <<< (nI j &&& 31)))), (3, .int 0), (0, .ref (zg_B G + 18)), (1, .int r), (2, .int w)] (by simp [zs1, Value.category, nI_succ]) ?_
              exact ih (j + 1) _ (by omega) (fun acc2 e2 => kx acc2 (by rw [e2]; show _ = s_bits _ m (j + 1) (acc ||| (if s_kp (decide (¬ w = 0)) (xK σ (xW σ r)) j = true then (1 : Int32) <<< (nI j &&& 31) else 0)); rw [hp]; rfl))
          · skip
            refine zv_iload dX8_kinds_49 rfl ?_
            refine zv_iload dX8_kinds_51 rfl ?_
            refine zv_callSq (mc := 0) (ms := 0) zm_X8_100 zkyX8_goes cM_goes rfl rfl (Nat.le_of_ble_eq_true rfl) (by decide) dX8_kinds_53 ?_
            refine zv_if_eq (tgt := 79) dX8_kinds_56 (by decide) (fun c56 => ?_) (fun c56 => ?_)
            · skip
              refine zv_iconstv (v := 0) dX8_kinds_79 (by decide) ?_
              refine zv_ior dX8_kinds_80 ?_
              refine zv_istore dX8_kinds_81 (by decide) ?_
              refine zv_iinc dX8_kinds_83 rfl (by decide) ?_
              refine zv_goto (tgt := 12) dX8_kinds_86 (by decide) ?_
              have hp : s_kp (decide (¬ w = 0)) (xK σ (xW σ r)) j = false := by simp_all [-Int32.not_lt, -Int32.not_le, ← Int32.not_lt, s_kp, zb_0, zb_n]
              refine zv_lv [(5, .int (nI (j + 1))), (4, .int (acc ||| 0)), (3, .int 0), (0, .ref (zg_B G + 18)), (1, .int r), (2, .int w)] (by simp [zs1, Value.category, nI_succ]) ?_
              exact ih (j + 1) _ (by omega) (fun acc2 e2 => kx acc2 (by rw [e2]; show _ = s_bits _ m (j + 1) (acc ||| (if s_kp (decide (¬ w = 0)) (xK σ (xW σ r)) j = true then (1 : Int32) <<< (nI j &&& 31) else 0)); rw [hp]; rfl))
            · skip
              refine zv_goto (tgt := 72) dX8_kinds_59 (by decide) ?_
              refine zv_iconstv (v := 1) dX8_kinds_72 (by decide) ?_
              refine zv_iload dX8_kinds_73 rfl ?_
              refine zv_ishl dX8_kinds_75 ?_
              refine zv_goto (tgt := 80) dX8_kinds_76 (by decide) ?_
              refine zv_ior dX8_kinds_80 ?_
              refine zv_istore dX8_kinds_81 (by decide) ?_
              refine zv_iinc dX8_kinds_83 rfl (by decide) ?_
              refine zv_goto (tgt := 12) dX8_kinds_86 (by decide) ?_
              have hp : s_kp (decide (¬ w = 0)) (xK σ (xW σ r)) j = true := by simp_all [-Int32.not_lt, -Int32.not_le, ← Int32.not_lt, s_kp, zb_0, zb_n]
              refine zv_lv [(5, .int (nI (j + 1))), (4, .int (acc ||| ((1 : Int32) <<< (nI j &&& 31)))), (3, .int 0), (0, .ref (zg_B G + 18)), (1, .int r), (2, .int w)] (by simp [zs1, Value.category, nI_succ]) ?_
              exact ih (j + 1) _ (by omega) (fun acc2 e2 => kx acc2 (by rw [e2]; show _ = s_bits _ m (j + 1) (acc ||| (if s_kp (decide (¬ w = 0)) (xK σ (xW σ r)) j = true then (1 : Int32) <<< (nI j &&& 31) else 0)); rw [hp]; rfl))
theorem fiF_3 {σ : sg} {r : Int32} (h : s_fiF σ r = 0) : xT σ r = 3 := by
  unfold s_fiF at h
  by_cases h1 : s_szF σ r ≤ 0
  · exact szF_3 h1
  · rw [if_neg h1] at h; exact absurd (by rw [h]; decide) h1
theorem fiF_eq (σ : sg) (r : Int32) : (if 0 < s_szF σ r then s_szF σ r else if xS σ (xW σ r) = 0 then 3 else 0) = s_fiF σ r := by
  unfold s_fiF
  by_cases h : s_szF σ r ≤ 0
  · rw [if_pos h, if_neg (Int32.not_lt.mpr h)]
  · rw [if_neg h, if_pos (Int32.not_le.mp h)]
set_option maxRecDepth 20000 in
set_option maxHeartbeats 1000000 in
theorem cM_kinds {G : zh_G} {l : Launch} {g : Nat → va_E} {nn : Nat} {σ : sg} (hn : zg_B G + 28 ≤ nn) {r w : Int32} (hr : vp_in r 10) (hq : xT σ r = 3 → rk σ (xW σ r)) : zc G l yX8_kinds cX8_kinds 7 (some .int) 2 [.ref (zg_B G + 18), .int r, .int w] (ms G g σ, nn) 0 0 (fun o h' => o = some (.int (s_ans (s_fiF σ r) (if s_fiF σ r = 0 then s_bits (s_kp (decide (¬ w = 0)) (xK σ (xW σ r))) 8 0 0 else 0))) ∧ h' = (ms G g (s_ansS σ (s_fiF σ r)), nn)) := by
  refine zc.of (by decide) (Nat.le_of_ble_eq_true rfl) ?_
  refine zv_aload_n dX8_kinds_0 rfl ?_
  refine zv_iload_n dX8_kinds_1 rfl ?_
  refine zM_call hn zm_X8_159 zkyX8_firstFault rfl (cM_firstFault hn hr hq) rfl rfl (Nat.le_of_ble_eq_true rfl) (by decide) dX8_kinds_2 ?_
  refine zv_istore_n dX8_kinds_5 (by decide) ?_
  refine zv_iconstv (v := 0) dX8_kinds_6 (by decide) ?_
  refine zv_istore dX8_kinds_7 (by decide) ?_
  refine zv_iconstv (v := 0) dX8_kinds_9 (by decide) ?_
  refine zv_istore dX8_kinds_10 (by decide) ?_
  rw [fiF_eq]
  by_cases h0 : s_fiF σ r = 0
  · rw [h0]
    refine zv_lv [(5, .int (nI 0)), (4, .int 0), (3, .int 0), (0, .ref (zg_B G + 18)), (1, .int r), (2, .int w)] (by simp [zs1, lv_args, Value.category, nI_0, show ((3 : Fin 4) : Nat) = 3 from rfl, show ((2 : Fin 4) : Nat) = 2 from rfl]) ?_
    refine cM_kinds_l hn hr (rk_i (hq (fiF_3 h0))) 8 0 0 rfl (fun acc2 e2 => ?_)
    refine zv_aload_n dX8_kinds_89 rfl ?_
    refine zv_iload_n dX8_kinds_90 rfl ?_
    refine zv_iload dX8_kinds_91 rfl ?_
    refine zM_call hn zm_X8_121 zkyX8_answer rfl (cM_answer hn (fun h => absurd (by decide) h)) rfl rfl (Nat.le_of_ble_eq_true rfl) (by decide) dX8_kinds_93 ?_
    exact zv_ireturn dX8_kinds_96 rfl (by simp [e2])
  · skip
    refine zv_iload dX8_kinds_12 rfl ?_
    refine zv_bipushv (v := 8) dX8_kinds_14 (by decide) ?_
    refine zv_icmp_ge (tgt := 89) dX8_kinds_16 (by decide) (fun c16 => ?_) (fun c16 => ?_)
    · exact absurd c16 (by decide)
    · skip
      refine zv_iload_n dX8_kinds_19 rfl ?_
      refine zv_if_ne (tgt := 89) dX8_kinds_20 (by decide) (fun c20 => ?_) (fun c20 => ?_)
      · skip
        refine zv_aload_n dX8_kinds_89 rfl ?_
        refine zv_iload_n dX8_kinds_90 rfl ?_
        refine zv_iload dX8_kinds_91 rfl ?_
        refine zM_call hn zm_X8_121 zkyX8_answer rfl (cM_answer hn (fun _ => fiF_in _ _)) rfl rfl (Nat.le_of_ble_eq_true rfl) (by decide) dX8_kinds_93 ?_
        exact zv_ireturn dX8_kinds_96 rfl (by simp [h0])
      · exact absurd c20 h0
set_option maxRecDepth 20000 in
set_option maxHeartbeats 1000000 in
theorem cM_takes {G : zh_G} {l : Launch} {g : Nat → va_E} {nn : Nat} {σ : sg} (hn : zg_B G + 28 ≤ nn) {r : Int32} (ho : okG σ) : zc G l yX8_takes cX8_takes 2 (some .int) 3 [.ref (zg_B G + 18), .int r] (ms G g σ, nn) 0 0 (fun o h' => o = some (.int (a_kinds σ r true)) ∧ h' = (ms G g (t_kinds σ r), nn)) := by
  refine zc.of (by decide) (Nat.le_of_ble_eq_true rfl) ?_
  refine zv_iload_n dX8_takes_0 rfl ?_
  refine zv_callSq (mc := 0) (ms := 0) zm_X8_57 zkyX8_no cM_no rfl rfl (Nat.le_of_ble_eq_true rfl) (by decide) dX8_takes_1 ?_
  refine zv_if_eq (tgt := 11) dX8_takes_4 (by decide) (fun c4 => ?_) (fun c4 => ?_)
  · skip
    refine zv_aload_n dX8_takes_11 rfl ?_
    refine zv_iload_n dX8_takes_12 rfl ?_
    refine zv_iconstv (v := 1) dX8_takes_13 (by decide) ?_
    refine zM_call hn zm_X8_162 zkyX8_kinds rfl (cM_kinds hn (w := 1) (no_in (zb_0.mp (by assumption))) (ho.1.1 _ (no_in (zb_0.mp (by assumption))))) rfl rfl (Nat.le_of_ble_eq_true rfl) (by decide) dX8_takes_14 ?_
    exact zv_ireturn dX8_takes_17 rfl (by refine ⟨?_, ?_⟩ <;> simp_all [-Int32.not_lt, -Int32.not_le, ← Int32.not_lt, xT, xW, xK, xS, xF, xP, zb_0, zb_n, out_bey, bey_9, bey_10, bey_16, bey_7, bey_4, bey_5, bey_3, bey_m, bey_e, a_kinds, t_kinds])
  · skip
    refine zv_iconstv (v := (-1)) dX8_takes_7 (by decide) ?_
    refine zv_goto (tgt := 17) dX8_takes_8 (by decide) ?_
    exact zv_ireturn dX8_takes_17 rfl (by refine ⟨?_, ?_⟩ <;> simp_all [-Int32.not_lt, -Int32.not_le, ← Int32.not_lt, xT, xW, xK, xS, xF, xP, zb_0, zb_n, out_bey, bey_9, bey_10, bey_16, bey_7, bey_4, bey_5, bey_3, bey_m, bey_e, a_kinds, t_kinds])
set_option maxRecDepth 20000 in
set_option maxHeartbeats 1000000 in
theorem cM_gives {G : zh_G} {l : Launch} {g : Nat → va_E} {nn : Nat} {σ : sg} (hn : zg_B G + 28 ≤ nn) {r : Int32} (ho : okG σ) : zc G l yX8_gives cX8_gives 2 (some .int) 3 [.ref (zg_B G + 18), .int r] (ms G g σ, nn) 0 0 (fun o h' => o = some (.int (a_kinds σ r false)) ∧ h' = (ms G g (t_kinds σ r), nn)) := by
  refine zc.of (by decide) (Nat.le_of_ble_eq_true rfl) ?_
  refine zv_iload_n dX8_gives_0 rfl ?_
  refine zv_callSq (mc := 0) (ms := 0) zm_X8_57 zkyX8_no cM_no rfl rfl (Nat.le_of_ble_eq_true rfl) (by decide) dX8_gives_1 ?_
  refine zv_if_eq (tgt := 11) dX8_gives_4 (by decide) (fun c4 => ?_) (fun c4 => ?_)
  · skip
    refine zv_aload_n dX8_gives_11 rfl ?_
    refine zv_iload_n dX8_gives_12 rfl ?_
    refine zv_iconstv (v := 0) dX8_gives_13 (by decide) ?_
    refine zM_call hn zm_X8_162 zkyX8_kinds rfl (cM_kinds hn (w := 0) (no_in (zb_0.mp (by assumption))) (ho.1.1 _ (no_in (zb_0.mp (by assumption))))) rfl rfl (Nat.le_of_ble_eq_true rfl) (by decide) dX8_gives_14 ?_
    exact zv_ireturn dX8_gives_17 rfl (by refine ⟨?_, ?_⟩ <;> simp_all [-Int32.not_lt, -Int32.not_le, ← Int32.not_lt, xT, xW, xK, xS, xF, xP, zb_0, zb_n, out_bey, bey_9, bey_10, bey_16, bey_7, bey_4, bey_5, bey_3, bey_m, bey_e, a_kinds, t_kinds])
  · skip
    refine zv_iconstv (v := (-1)) dX8_gives_7 (by decide) ?_
    refine zv_goto (tgt := 17) dX8_gives_8 (by decide) ?_
    exact zv_ireturn dX8_gives_17 rfl (by refine ⟨?_, ?_⟩ <;> simp_all [-Int32.not_lt, -Int32.not_le, ← Int32.not_lt, xT, xW, xK, xS, xF, xP, zb_0, zb_n, out_bey, bey_9, bey_10, bey_16, bey_7, bey_4, bey_5, bey_3, bey_m, bey_e, a_kinds, t_kinds])
set_option maxRecDepth 20000 in
set_option maxHeartbeats 1000000 in
theorem cM_same_l {G : zh_G} {l : Launch} {g : Nat → va_E} {nn : Nat} (hn : zg_B G + 28 ≤ nn) {σ : sg} {r : Int32} (hr : vp_in r 10) : ∀ (m j : Nat) (acc : Int32), j + m = 10 → zv G l yX8_same cX8_same 4 (some .int) 2 0 0 13 [(3, .int (nI j)), (2, .int acc), (0, .ref (zg_B G + 18)), (1, .int r)] [] (ms G g σ, nn) (fun o h' => o = some (.int (s_cnt (s_sm σ r) m j acc)) ∧ h' = (ms G g σ, nn)) := by
  intro m
  induction m with
  | zero =>
    intro j acc hj
    have hj : j = 10 := by omega
    subst hj
    refine zv_iload_n dX8_same_13 rfl ?_
    refine zv_bipushv (v := 10) dX8_same_14 (by decide) ?_
    refine zv_icmp_ge (tgt := 72) dX8_same_16 (by decide) (fun _ => ?_) (fun c => absurd (by decide) c)
    refine zv_iload_n dX8_same_72 rfl ?_
    exact zv_ireturn dX8_same_73 rfl ⟨rfl, rfl⟩
  | succ m ih =>
    intro j acc hj
    have hjj : vp_in (nI j) 10 := vp_in_nI (by omega) (by decide)
    refine zv_iload_n dX8_same_13 rfl ?_
    refine zv_bipushv (v := 10) dX8_same_14 (by decide) ?_
    refine zv_icmp_ge (tgt := 72) dX8_same_16 (by decide) (fun c16 => ?_) (fun c16 => ?_)
    · exact absurd c16 (by rw [show (10 : Int32) = nI 10 from rfl]; exact nI_ge (by omega) (by decide))
    · skip
      refine zv_iload_n dX8_same_19 rfl ?_
      refine zv_aload_n dX8_same_20 rfl ?_
      refine zM_get hn zf_X8_7_6 rfl dX8_same_21 ?_
      refine zv_iload_n dX8_same_24 rfl ?_
      refine zM_ald0 hn (by first | with_reducible exact hr | with_reducible exact hjj) dX8_same_25 ?_
      refine zv_if_le (tgt := 63) dX8_same_26 (by decide) (fun c26 => ?_) (fun c26 => ?_)
      · skip
        refine zv_iconstv (v := 0) dX8_same_63 (by decide) ?_
        refine zv_iadd dX8_same_64 ?_
        refine zv_istore_n dX8_same_65 (by decide) ?_
        refine zv_iinc dX8_same_66 rfl (by decide) ?_
        refine zv_goto (tgt := 13) dX8_same_69 (by decide) ?_
        have hp : s_sm σ r j = false := by simp_all [-Int32.not_lt, -Int32.not_le, ← Int32.not_lt, s_sm, nI_clamp (show j < 2 ^ 31 by omega)]
        refine zv_lv [(3, .int (nI (j + 1))), (2, .int (acc + 0)), (0, .ref (zg_B G + 18)), (1, .int r)] (by simp [zs1, Value.category, nI_succ]) ?_
        have z := ih (j + 1) (acc + 0) (by omega)
        rw [show s_cnt (s_sm σ r) (m + 1) j acc = s_cnt (s_sm σ r) m (j + 1) (acc + 0) from by show s_cnt _ m (j + 1) (acc + (if s_sm σ r j = true then 1 else 0)) = _; rw [hp]; rfl]
        exact z
      · skip
        refine zv_aload_n dX8_same_29 rfl ?_
        refine zM_get hn zf_X8_7_6 rfl dX8_same_30 ?_
        refine zv_iload_n dX8_same_33 rfl ?_
        refine zM_ald0 hn (by first | with_reducible exact hr | with_reducible exact hjj) dX8_same_34 ?_
        refine zv_aload_n dX8_same_35 rfl ?_
        refine zM_get hn zf_X8_7_6 rfl dX8_same_36 ?_
        refine zv_iload_n dX8_same_39 rfl ?_
        refine zM_ald0 hn (by first | with_reducible exact hr | with_reducible exact hjj) dX8_same_40 ?_
        refine zv_icmp_ne (tgt := 63) dX8_same_41 (by decide) (fun c41 => ?_) (fun c41 => ?_)
        · skip
          refine zv_iconstv (v := 0) dX8_same_63 (by decide) ?_
          refine zv_iadd dX8_same_64 ?_
          refine zv_istore_n dX8_same_65 (by decide) ?_
          refine zv_iinc dX8_same_66 rfl (by decide) ?_
          refine zv_goto (tgt := 13) dX8_same_69 (by decide) ?_
          have hp : s_sm σ r j = false := by simp_all [-Int32.not_lt, -Int32.not_le, ← Int32.not_lt, s_sm, nI_clamp (show j < 2 ^ 31 by omega)]
          refine zv_lv [(3, .int (nI (j + 1))), (2, .int (acc + 0)), (0, .ref (zg_B G + 18)), (1, .int r)] (by simp [zs1, Value.category, nI_succ]) ?_
          have z := ih (j + 1) (acc + 0) (by omega)
          rw [show s_cnt (s_sm σ r) (m + 1) j acc = s_cnt (s_sm σ r) m (j + 1) (acc + 0) from by show s_cnt _ m (j + 1) (acc + (if s_sm σ r j = true then 1 else 0)) = _; rw [hp]; rfl]
          exact z
        · skip
          refine zv_aload_n dX8_same_44 rfl ?_
          refine zM_get hn zf_X8_13_6 rfl dX8_same_45 ?_
          refine zv_iload_n dX8_same_48 rfl ?_
          refine zM_ald1 hn (by first | with_reducible exact hr | with_reducible exact hjj) dX8_same_49 ?_
          refine zv_aload_n dX8_same_50 rfl ?_
          refine zM_get hn zf_X8_13_6 rfl dX8_same_51 ?_
          refine zv_iload_n dX8_same_54 rfl ?_
          refine zM_ald1 hn (by first | with_reducible exact hr | with_reducible exact hjj) dX8_same_55 ?_
          refine zv_icmp_ne (tgt := 63) dX8_same_56 (by decide) (fun c56 => ?_) (fun c56 => ?_)
          · skip
            refine zv_iconstv (v := 0) dX8_same_63 (by decide) ?_
            refine zv_iadd dX8_same_64 ?_
            refine zv_istore_n dX8_same_65 (by decide) ?_
            refine zv_iinc dX8_same_66 rfl (by decide) ?_
            refine zv_goto (tgt := 13) dX8_same_69 (by decide) ?_
            have hp : s_sm σ r j = false := by simp_all [-Int32.not_lt, -Int32.not_le, ← Int32.not_lt, s_sm, nI_clamp (show j < 2 ^ 31 by omega)]
            refine zv_lv [(3, .int (nI (j + 1))), (2, .int (acc + 0)), (0, .ref (zg_B G + 18)), (1, .int r)] (by simp [zs1, Value.category, nI_succ]) ?_
            have z := ih (j + 1) (acc + 0) (by omega)
            rw [show s_cnt (s_sm σ r) (m + 1) j acc = s_cnt (s_sm σ r) m (j + 1) (acc + 0) from by show s_cnt _ m (j + 1) (acc + (if s_sm σ r j = true then 1 else 0)) = _; rw [hp]; rfl]
            exact z
          · skip
            refine zv_iconstv (v := 1) dX8_same_59 (by decide) ?_
            refine zv_goto (tgt := 64) dX8_same_60 (by decide) ?_
            refine zv_iadd dX8_same_64 ?_
            refine zv_istore_n dX8_same_65 (by decide) ?_
            refine zv_iinc dX8_same_66 rfl (by decide) ?_
            refine zv_goto (tgt := 13) dX8_same_69 (by decide) ?_
            have hp : s_sm σ r j = true := by simp_all [-Int32.not_lt, -Int32.not_le, ← Int32.not_lt, s_sm, nI_clamp (show j < 2 ^ 31 by omega)]
            refine zv_lv [(3, .int (nI (j + 1))), (2, .int (acc + 1)), (0, .ref (zg_B G + 18)), (1, .int r)] (by simp [zs1, Value.category, nI_succ]) ?_
            have z := ih (j + 1) (acc + 1) (by omega)
            rw [show s_cnt (s_sm σ r) (m + 1) j acc = s_cnt (s_sm σ r) m (j + 1) (acc + 1) from by show s_cnt _ m (j + 1) (acc + (if s_sm σ r j = true then 1 else 0)) = _; rw [hp]; rfl]
            exact z
set_option maxRecDepth 20000 in
set_option maxHeartbeats 1000000 in
theorem cM_same {G : zh_G} {l : Launch} {g : Nat → va_E} {nn : Nat} {σ : sg} (hn : zg_B G + 28 ≤ nn) {r : Int32} : zc G l yX8_same cX8_same 4 (some .int) 2 [.ref (zg_B G + 18), .int r] (ms G g σ, nn) 0 0 (fun o h' => o = some (.int (a_same σ r)) ∧ h' = (ms G g σ, nn)) := by
  refine zc.of (by decide) (Nat.le_of_ble_eq_true rfl) ?_
  refine zv_iload_n dX8_same_0 rfl ?_
  refine zv_callSq (mc := 0) (ms := 0) zm_X8_57 zkyX8_no cM_no rfl rfl (Nat.le_of_ble_eq_true rfl) (by decide) dX8_same_1 ?_
  refine zv_if_eq (tgt := 9) dX8_same_4 (by decide) (fun c4 => ?_) (fun c4 => ?_)
  · skip
    refine zv_iconstv (v := 0) dX8_same_9 (by decide) ?_
    refine zv_istore_n dX8_same_10 (by decide) ?_
    refine zv_iconstv (v := 0) dX8_same_11 (by decide) ?_
    refine zv_istore_n dX8_same_12 (by decide) ?_
    have hs : s_no r = false := zb_0.mp (by assumption)
    refine zv_lv [(3, .int (nI 0)), (2, .int 0), (0, .ref (zg_B G + 18)), (1, .int r)] (by simp [zs1, lv_args, Value.category, nI_0, show ((3 : Fin 4) : Nat) = 3 from rfl, show ((2 : Fin 4) : Nat) = 2 from rfl]) ?_
    have z := cM_same_l (l := l) (g := g) hn (σ := σ) (no_in hs) 10 0 0 rfl
    rw [show a_same σ r = s_cnt (s_sm σ r) 10 0 0 from by simp [a_same, hs]]
    exact z
  · skip
    refine zv_iconstv (v := (-1)) dX8_same_7 (by decide) ?_
    exact zv_ireturn dX8_same_8 rfl (by refine ⟨?_, ?_⟩ <;> simp_all [-Int32.not_lt, -Int32.not_le, ← Int32.not_lt, xT, xW, xK, xS, xF, xP, zb_0, zb_n, out_bey, bey_9, bey_10, bey_16, bey_7, bey_4, bey_5, bey_3, bey_m, bey_e, a_same])
