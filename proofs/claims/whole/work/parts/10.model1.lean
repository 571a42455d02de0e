section ZMC
variable {G : zh_G} {l : Launch} {y : MethodName} {cc : ByteArray} {n : Nat} {r : Option FieldType} {d mc ms0 pc : Nat} {lv : List (Nat × Value)} {st : List Value} {Q : Option Value → zh_H → Prop} {g : Nat → va_E} {σ : sg} {nn : Nat}
theorem zM_call (hn : zg_B G + 28 ≤ nn) {y1 : MethodName} {cc1 : ByteArray} {n1 d1 k idx : Nat} {r1 : Option FieldType} {As rest : List Value} {v0 : Option Value} {σ2 : sg} (hm : zm y.cls idx y1 cc1 n1 r1 k) (hs : Cond.instanceMethod y1 ∈ zw ∧ Cond.selects y1.cls y1 y1 ∈ zw) (hcn : RX8 = y1.cls) (hM : zc G l y1 cc1 n1 r1 d1 (.ref (zg_B G + 18) :: As) (ms G g σ, nn) 0 0 (fun v h' => v = v0 ∧ h' = (ms G g σ2, nn))) (hst : st = As.reverse ++ .ref (zg_B G + 18) :: rest) (hk : As.length = k) (hcat : (rest.map fun v => v.category).sum ≤ 8) (hdd : d1 + 1 ≤ d) (hd : decode cc pc = .ok (.invokevirtual idx, 3)) (kk : zv G l y cc n r d mc ms0 (pc + 3) lv (v0.toList ++ rest) (ms G g σ2, nn) Q) : zv G l y cc n r d mc ms0 pc lv st (ms G g σ, nn) Q := by
  rw [← Nat.zero_add mc, ← Nat.zero_add ms0]
  exact zv_callVq hm hs (ms_o G g σ) (by omega) (show zg_B G + 18 < nn by omega) rfl hcn hM hst hk hcat hdd hd kk
theorem zM_callg (hn : zg_B G + 28 ≤ nn) {y1 : MethodName} {cc1 : ByteArray} {n1 d1 k idx : Nat} {r1 : Option FieldType} {As rest : List Value} {v0 : Option Value} {σ2 : sg} (hm : zm y.cls idx y1 cc1 n1 r1 k) (hs : Cond.instanceMethod y1 ∈ zw ∧ Cond.selects y1.cls y1 y1 ∈ zw) (hcn : RX8 = y1.cls) (hM : zc G l y1 cc1 n1 r1 d1 (.ref (zg_B G + 18) :: As) (ms G g σ, nn) 0 0 (fun v h' => v = v0 ∧ h' = (ms G g σ2, nn))) (hst : st = As.reverse ++ .ref (zg_B G + 18) :: rest) (hk : As.length = k) (hcat : (rest.map fun v => v.category).sum ≤ 8) (hdd : d1 + 1 ≤ d) (hd : decode cc pc = .ok (.invokevirtual idx, 3)) (kk : ∀ σ3 : sg, σ3 = σ2 → zv G l y cc n r d mc ms0 (pc + 3) lv (v0.toList ++ rest) (ms G g σ3, nn) Q) : zv G l y cc n r d mc ms0 pc lv st (ms G g σ, nn) Q :=
  zM_call hn hm hs hcn hM hst hk hcat hdd hd (kk σ2 rfl)
end ZMC
set_option maxRecDepth 20000 in
set_option maxHeartbeats 4000000 in
theorem cM_beyond {G : zh_G} {l : Launch} {h : zh_H} {v a b : Int64} : zc G l yX8_beyond cX8_beyond 6 (some .boolean) 0 [.long v, .long a, .long b] h 0 0 (fun o h' => o = some (.int (zb (s_bey v a b))) ∧ h' = h) := by
  refine zc.of (by decide) (Nat.le_of_ble_eq_true rfl) ?_
  refine zv_lload_n dX8_beyond_0 rfl ?_
  refine zv_lload_n dX8_beyond_1 rfl ?_
  refine zv_lcmp dX8_beyond_2 ?_
  refine zv_if_lt (tgt := 13) dX8_beyond_3 (by decide) (fun c3 => ?_) (fun c3 => ?_)
  · skip
    refine zv_iconstv (v := 1) dX8_beyond_13 (by decide) ?_
    refine zv_goto (tgt := 18) dX8_beyond_14 (by decide) ?_
    exact zv_zreturn dX8_beyond_18 rfl (by decide) (by refine ⟨?_, rfl⟩; simp_all [s_bey, zb, cmp_lt, cmp_le])
  · skip
    refine zv_lload_n dX8_beyond_6 rfl ?_
    refine zv_lload dX8_beyond_7 rfl ?_
    refine zv_lcmp dX8_beyond_9 ?_
    refine zv_if_le (tgt := 17) dX8_beyond_10 (by decide) (fun c10 => ?_) (fun c10 => ?_)
    · skip
      refine zv_iconstv (v := 0) dX8_beyond_17 (by decide) ?_
      exact zv_zreturn dX8_beyond_18 rfl (by decide) (by refine ⟨?_, rfl⟩; simp_all [s_bey, zb, cmp_lt, cmp_le])
    · skip
      refine zv_iconstv (v := 1) dX8_beyond_13 (by decide) ?_
      refine zv_goto (tgt := 18) dX8_beyond_14 (by decide) ?_
      exact zv_zreturn dX8_beyond_18 rfl (by decide) (by refine ⟨?_, rfl⟩; simp_all [s_bey, zb, cmp_lt, cmp_le])
set_option maxRecDepth 20000 in
set_option maxHeartbeats 4000000 in
theorem cM_no {G : zh_G} {l : Launch} {h : zh_H} {r : Int32} : zc G l yX8_no cX8_no 1 (some .boolean) 1 [.int r] h 0 0 (fun o h' => o = some (.int (zb (s_no r))) ∧ h' = h) := by
  refine zc.of (by decide) (Nat.le_of_ble_eq_true rfl) ?_
  refine zv_iload_n dX8_no_0 rfl ?_
  refine zv_i2l dX8_no_1 ?_
  refine zv_lconstv (v := 0) dX8_no_2 (by decide) ?_
  refine zv_ldc2 dX8_no_3 zq_X8_40 ?_
  refine zv_callSq (mc := 0) (ms := 0) zm_X8_42 zkyX8_beyond cM_beyond rfl rfl (Nat.le_of_ble_eq_true rfl) (by decide) dX8_no_6 ?_
  exact zv_zreturn dX8_no_9 rfl (zb_nar _) ⟨by rw [no_bey], rfl⟩
set_option maxRecDepth 20000 in
set_option maxHeartbeats 4000000 in
theorem cM_goes {G : zh_G} {l : Launch} {h : zh_H} {k t : Int32} : zc G l yX8_goes cX8_goes 2 (some .boolean) 0 [.int k, .int t] h 0 0 (fun o h' => o = some (.int (zb (s_goes k t))) ∧ h' = h) := by
  refine zc.of (by decide) (Nat.le_of_ble_eq_true rfl) ?_
  refine zv_iload_n dX8_goes_0 rfl ?_
  refine zv_iload_n dX8_goes_1 rfl ?_
  refine zv_icmp_ne (tgt := 7) dX8_goes_2 (by decide) (fun c2 => ?_) (fun c2 => ?_)
  · skip
    refine zv_iload_n dX8_goes_7 rfl ?_
    refine zv_if_le (tgt := 41) dX8_goes_8 (by decide) (fun c8 => ?_) (fun c8 => ?_)
    · skip
      refine zv_iconstv (v := 0) dX8_goes_41 (by decide) ?_
      exact zv_zreturn dX8_goes_42 rfl (by decide) (by refine ⟨?_, rfl⟩; simp only [s_goes, zb, Int32.lt_iff_toInt_lt, Int32.le_iff_toInt_le, ← Int32.toInt_inj, show (0 : Int32).toInt = 0 from rfl, show (1 : Int32).toInt = 1 from rfl, show (3 : Int32).toInt = 3 from rfl, show (8 : Int32).toInt = 8 from rfl] at *; first | (rw [if_pos (by rw [decide_eq_true_iff]; omega)]) | (rw [if_neg (by rw [decide_eq_true_iff]; omega)]))
    · skip
      refine zv_iload_n dX8_goes_11 rfl ?_
      refine zv_iload_n dX8_goes_12 rfl ?_
      refine zv_icmp_ge (tgt := 41) dX8_goes_13 (by decide) (fun c13 => ?_) (fun c13 => ?_)
      · skip
        refine zv_iconstv (v := 0) dX8_goes_41 (by decide) ?_
        exact zv_zreturn dX8_goes_42 rfl (by decide) (by refine ⟨?_, rfl⟩; simp only [s_goes, zb, Int32.lt_iff_toInt_lt, Int32.le_iff_toInt_le, ← Int32.toInt_inj, show (0 : Int32).toInt = 0 from rfl, show (1 : Int32).toInt = 1 from rfl, show (3 : Int32).toInt = 3 from rfl, show (8 : Int32).toInt = 8 from rfl] at *; first | (rw [if_pos (by rw [decide_eq_true_iff]; omega)]) | (rw [if_neg (by rw [decide_eq_true_iff]; omega)]))
      · skip
        refine zv_iload_n dX8_goes_16 rfl ?_
        refine zv_bipushv (v := 8) dX8_goes_17 (by decide) ?_
        refine zv_icmp_ge (tgt := 41) dX8_goes_19 (by decide) (fun c19 => ?_) (fun c19 => ?_)
        · skip
          refine zv_iconstv (v := 0) dX8_goes_41 (by decide) ?_
          exact zv_zreturn dX8_goes_42 rfl (by decide) (by refine ⟨?_, rfl⟩; simp only [s_goes, zb, Int32.lt_iff_toInt_lt, Int32.le_iff_toInt_le, ← Int32.toInt_inj, show (0 : Int32).toInt = 0 from rfl, show (1 : Int32).toInt = 1 from rfl, show (3 : Int32).toInt = 3 from rfl, show (8 : Int32).toInt = 8 from rfl] at *; first | (rw [if_pos (by rw [decide_eq_true_iff]; omega)]) | (rw [if_neg (by rw [decide_eq_true_iff]; omega)]))
        · skip
          refine zv_iload_n dX8_goes_22 rfl ?_
          refine zv_iconstv (v := 3) dX8_goes_23 (by decide) ?_
          refine zv_icmp_gt (tgt := 37) dX8_goes_24 (by decide) (fun c24 => ?_) (fun c24 => ?_)
          · skip
            refine zv_iconstv (v := 1) dX8_goes_37 (by decide) ?_
            refine zv_goto (tgt := 42) dX8_goes_38 (by decide) ?_
            exact zv_zreturn dX8_goes_42 rfl (by decide) (by refine ⟨?_, rfl⟩; simp only [s_goes, zb, Int32.lt_iff_toInt_lt, Int32.le_iff_toInt_le, ← Int32.toInt_inj, show (0 : Int32).toInt = 0 from rfl, show (1 : Int32).toInt = 1 from rfl, show (3 : Int32).toInt = 3 from rfl, show (8 : Int32).toInt = 8 from rfl] at *; first | (rw [if_pos (by rw [decide_eq_true_iff]; omega)]) | (rw [if_neg (by rw [decide_eq_true_iff]; omega)]))
          · skip
            refine zv_iload_n dX8_goes_27 rfl ?_
            refine zv_iconstv (v := 3) dX8_goes_28 (by decide) ?_
            refine zv_icmp_ne (tgt := 41) dX8_goes_29 (by decide) (fun c29 => ?_) (fun c29 => ?_)
            · skip
              refine zv_iconstv (v := 0) dX8_goes_41 (by decide) ?_
              exact zv_zreturn dX8_goes_42 rfl (by decide) (by refine ⟨?_, rfl⟩; simp only [s_goes, zb, Int32.lt_iff_toInt_lt, Int32.le_iff_toInt_le, ← Int32.toInt_inj, show (0 : Int32).toInt = 0 from rfl, show (1 : Int32).toInt = 1 from rfl, show (3 : Int32).toInt = 3 from rfl, show (8 : Int32).toInt = 8 from rfl] at *; first | (rw [if_pos (by rw [decide_eq_true_iff]; omega)]) | (rw [if_neg (by rw [decide_eq_true_iff]; omega)]))
            · skip
              refine zv_iload_n dX8_goes_32 rfl ?_
              refine zv_iconstv (v := 1) dX8_goes_33 (by decide) ?_
              refine zv_icmp_ne (tgt := 41) dX8_goes_34 (by decide) (fun c34 => ?_) (fun c34 => ?_)
              · skip
                refine zv_iconstv (v := 0) dX8_goes_41 (by decide) ?_
                exact zv_zreturn dX8_goes_42 rfl (by decide) (by refine ⟨?_, rfl⟩; simp only [s_goes, zb, Int32.lt_iff_toInt_lt, Int32.le_iff_toInt_le, ← Int32.toInt_inj, show (0 : Int32).toInt = 0 from rfl, show (1 : Int32).toInt = 1 from rfl, show (3 : Int32).toInt = 3 from rfl, show (8 : Int32).toInt = 8 from rfl] at *; first | (rw [if_pos (by rw [decide_eq_true_iff]; omega)]) | (rw [if_neg (by rw [decide_eq_true_iff]; omega)]))
              · skip
                refine zv_iconstv (v := 1) dX8_goes_37 (by decide) ?_
                refine zv_goto (tgt := 42) dX8_goes_38 (by decide) ?_
                exact zv_zreturn dX8_goes_42 rfl (by decide) (by refine ⟨?_, rfl⟩; simp only [s_goes, zb, Int32.lt_iff_toInt_lt, Int32.le_iff_toInt_le, ← Int32.toInt_inj, show (0 : Int32).toInt = 0 from rfl, show (1 : Int32).toInt = 1 from rfl, show (3 : Int32).toInt = 3 from rfl, show (8 : Int32).toInt = 8 from rfl] at *; first | (rw [if_pos (by rw [decide_eq_true_iff]; omega)]) | (rw [if_neg (by rw [decide_eq_true_iff]; omega)]))
  · skip
    refine zv_iconstv (v := 1) dX8_goes_5 (by decide) ?_
    exact zv_zreturn dX8_goes_6 rfl (by decide) (by refine ⟨?_, rfl⟩; simp only [s_goes, zb, Int32.lt_iff_toInt_lt, Int32.le_iff_toInt_le, ← Int32.toInt_inj, show (0 : Int32).toInt = 0 from rfl, show (1 : Int32).toInt = 1 from rfl, show (3 : Int32).toInt = 3 from rfl, show (8 : Int32).toInt = 8 from rfl] at *; first | (rw [if_pos (by rw [decide_eq_true_iff]; omega)]) | (rw [if_neg (by rw [decide_eq_true_iff]; omega)]))
set_option maxRecDepth 20000 in
set_option maxHeartbeats 4000000 in
theorem cM_as {G : zh_G} {l : Launch} {h : zh_H} {k : Int32} {v : Int64} : zc G l yX8_as cX8_as 3 (some .long) 0 [.int k, .long v] h 0 0 (fun o h' => o = some (.long (s_as k v)) ∧ h' = h) := by
  refine zc.of (by decide) (Nat.le_of_ble_eq_true rfl) ?_
  refine zv_iload_n dX8_as_0 rfl ?_
  by_cases e0 : k = 0
  · subst e0
    refine zv_tableIn (tgt := 44) dX8_as_1 (by decide) (by decide) rfl (by decide) ?_
    refine zv_lload_n dX8_as_44 rfl ?_
    refine zv_lconstv (v := 0) dX8_as_45 (by decide) ?_
    refine zv_lcmp dX8_as_46 ?_
    refine zv_if_eq (tgt := 54) dX8_as_47 (by decide) (fun c47 => ?_) (fun c47 => ?_)
    · skip
      refine zv_lconstv (v := 0) dX8_as_54 (by decide) ?_
      exact zv_lreturn dX8_as_55 rfl (by refine ⟨?_, rfl⟩; simp_all [s_as, cmp_eq])
    · skip
      refine zv_lconstv (v := 1) dX8_as_50 (by decide) ?_
      refine zv_goto (tgt := 55) dX8_as_51 (by decide) ?_
      exact zv_lreturn dX8_as_55 rfl (by refine ⟨?_, rfl⟩; simp_all [s_as, cmp_eq])
  by_cases e1 : k = 1
  · subst e1
    refine zv_tableIn (tgt := 56) dX8_as_1 (by decide) (by decide) rfl (by decide) ?_
    refine zv_lload_n dX8_as_56 rfl ?_
    refine zv_l2i dX8_as_57 ?_
    refine zv_i2b dX8_as_58 ?_
    refine zv_i2l dX8_as_59 ?_
    exact zv_lreturn dX8_as_60 rfl (by refine ⟨?_, rfl⟩; simp_all [s_as, cmp_eq])
  by_cases e2 : k = 2
  · subst e2
    refine zv_tableIn (tgt := 61) dX8_as_1 (by decide) (by decide) rfl (by decide) ?_
    refine zv_lload_n dX8_as_61 rfl ?_
    refine zv_l2i dX8_as_62 ?_
    refine zv_i2c dX8_as_63 ?_
    refine zv_i2l dX8_as_64 ?_
    exact zv_lreturn dX8_as_65 rfl (by refine ⟨?_, rfl⟩; simp_all [s_as, cmp_eq])
  by_cases e3 : k = 3
  · subst e3
    refine zv_tableIn (tgt := 66) dX8_as_1 (by decide) (by decide) rfl (by decide) ?_
    refine zv_lload_n dX8_as_66 rfl ?_
    refine zv_l2i dX8_as_67 ?_
    refine zv_i2s dX8_as_68 ?_
    refine zv_i2l dX8_as_69 ?_
    exact zv_lreturn dX8_as_70 rfl (by refine ⟨?_, rfl⟩; simp_all [s_as, cmp_eq])
  by_cases e4 : k = 4
  · subst e4
    refine zv_tableIn (tgt := 71) dX8_as_1 (by decide) (by decide) rfl (by decide) ?_
    refine zv_lload_n dX8_as_71 rfl ?_
    refine zv_l2i dX8_as_72 ?_
    refine zv_i2l dX8_as_73 ?_
    exact zv_lreturn dX8_as_74 rfl (by refine ⟨?_, rfl⟩; simp_all [s_as, cmp_eq])
  by_cases e5 : k = 5
  · subst e5
    refine zv_tableIn (tgt := 75) dX8_as_1 (by decide) (by decide) rfl (by decide) ?_
    refine zv_lload_n dX8_as_75 rfl ?_
    exact zv_lreturn dX8_as_76 rfl (by refine ⟨?_, rfl⟩; simp_all [s_as, cmp_eq])
  by_cases e6 : k = 6
  · subst e6
    refine zv_tableIn (tgt := 77) dX8_as_1 (by decide) (by decide) rfl (by decide) ?_
    refine zv_lload_n dX8_as_77 rfl ?_
    refine zv_l2f dX8_as_78 ?_
    refine zv_f2l dX8_as_79 ?_
    exact zv_lreturn dX8_as_80 rfl (by refine ⟨?_, rfl⟩; simp_all [s_as, cmp_eq])
  have hout : k.toInt < 0 ∨ 6 < k.toInt := by
    have := lv_neT (a := 0) e0 (by decide); have := lv_neT (a := 1) e1 (by decide); have := lv_neT (a := 2) e2 (by decide); have := lv_neT (a := 3) e3 (by decide); have := lv_neT (a := 4) e4 (by decide); have := lv_neT (a := 5) e5 (by decide); have := lv_neT (a := 6) e6 (by decide)
    omega
  refine zv_tableOut (tgt := 81) dX8_as_1 hout (by decide) ?_
  refine zv_lload_n dX8_as_81 rfl ?_
  refine zv_l2d dX8_as_82 ?_
  refine zv_d2l dX8_as_83 ?_
  exact zv_lreturn dX8_as_84 rfl (by refine ⟨?_, rfl⟩; simp_all [s_as, cmp_eq])
set_option maxRecDepth 20000 in
set_option maxHeartbeats 4000000 in
theorem cM_met1 {G : zh_G} {l : Launch} {g : Nat → va_E} {nn : Nat} {σ : sg} (hn : zg_B G + 28 ≤ nn) {f : Int32} (hf : vp_in f 4) : zc G l yX8_met1 cX8_met1 2 (some .int) 0 [.ref (zg_B G + 18), .int f] (ms G g σ, nn) 0 0 (fun o h' => o = some (.int f) ∧ h' = (ms G g (s_met1 σ f), nn)) := by
  refine zc.of (by decide) (Nat.le_of_ble_eq_true rfl) ?_
  refine zv_aload_n dX8_met1_0 rfl ?_
  refine zv_iload_n dX8_met1_1 rfl ?_
  refine zM_put16 hn zfw_X8_46_6 dX8_met1_2 ?_
  refine zv_aload_n dX8_met1_5 rfl ?_
  refine zM_get hn zf_X8_37_6 rfl dX8_met1_6 ?_
  refine zv_iload_n dX8_met1_9 rfl ?_
  refine zv_dup2 dX8_met1_10 rfl rfl ?_
  refine zM_ald17 hn (by first | exact hf | exact vp_in_nI (n := 0) (N := 4) (by decide) (by decide)) dX8_met1_11 ?_
  refine zv_iconstv (v := 1) dX8_met1_12 (by decide) ?_
  refine zv_iadd dX8_met1_13 ?_
  refine zM_ast17 hn (by first | exact hf | exact vp_in_nI (n := 0) (N := 4) (by decide) (by decide)) dX8_met1_14 ?_
  refine zv_aload_n dX8_met1_15 rfl ?_
  refine zM_get hn zf_X8_37_6 rfl dX8_met1_16 ?_
  refine zv_iconstv (v := 0) dX8_met1_19 (by decide) ?_
  refine zv_dup2 dX8_met1_20 rfl rfl ?_
  refine zM_ald17 hn (by first | exact hf | exact vp_in_nI (n := 0) (N := 4) (by decide) (by decide)) dX8_met1_21 ?_
  refine zv_iconstv (v := 1) dX8_met1_22 (by decide) ?_
  refine zv_iadd dX8_met1_23 ?_
  refine zM_ast17 hn (by first | exact hf | exact vp_in_nI (n := 0) (N := 4) (by decide) (by decide)) dX8_met1_24 ?_
  refine zv_iload_n dX8_met1_25 rfl ?_
  exact zv_ireturn dX8_met1_26 rfl ⟨rfl, rfl⟩
set_option maxRecDepth 20000 in
set_option maxHeartbeats 4000000 in
theorem cM_answer {G : zh_G} {l : Launch} {g : Nat → va_E} {nn : Nat} {σ : sg} (hn : zg_B G + 28 ≤ nn) {f good : Int32} (hf : ¬ f ≤ 0 → vp_in f 4) : zc G l yX8_answer cX8_answer 3 (some .int) 1 [.ref (zg_B G + 18), .int f, .int good] (ms G g σ, nn) 0 0 (fun o h' => o = some (.int (s_ans f good)) ∧ h' = (ms G g (s_ansS σ f), nn)) := by
  refine zc.of (by decide) (Nat.le_of_ble_eq_true rfl) ?_
  refine zv_iload_n dX8_answer_0 rfl ?_
  refine zv_if_le (tgt := 15) dX8_answer_1 (by decide) (fun c1 => ?_) (fun c1 => ?_)
  · skip
    refine zv_iload_n dX8_answer_15 rfl ?_
    exact zv_ireturn dX8_answer_16 rfl (by simp only [s_ans, s_ansS]; simp [c1])
  · skip
    refine zv_bipushv (v := (-10)) dX8_answer_4 (by decide) ?_
    refine zv_aload_n dX8_answer_6 rfl ?_
    refine zv_iload_n dX8_answer_7 rfl ?_
    refine zM_call hn zm_X8_50 zkyX8_met1 rfl (cM_met1 hn (hf c1)) rfl rfl (Nat.le_of_ble_eq_true rfl) (by decide) dX8_answer_8 ?_
    refine zv_isub dX8_answer_11 ?_
    refine zv_goto (tgt := 16) dX8_answer_12 (by decide) ?_
    exact zv_ireturn dX8_answer_16 rfl (by simp only [s_ans, s_ansS]; simp [c1])
set_option maxRecDepth 20000 in
set_option maxHeartbeats 4000000 in
theorem cM_hold {G : zh_G} {l : Launch} {g : Nat → va_E} {nn : Nat} {σ : sg} (hn : zg_B G + 28 ≤ nn) {k : Int32} {v : Int64} : zc G l yX8_hold cX8_hold 4 none 0 [.ref (zg_B G + 18), .int k, .long v] (ms G g σ, nn) 0 0 (fun o h' => o = none ∧ h' = (ms G g (s_hold σ k v), nn)) := by
  refine zc.of (by decide) (Nat.le_of_ble_eq_true rfl) ?_
  refine zv_aload_n dX8_hold_0 rfl ?_
  refine zv_iconstv (v := 1) dX8_hold_1 (by decide) ?_
  refine zM_put2 hn zfw_X8_69_6 dX8_hold_2 ?_
  refine zv_aload_n dX8_hold_5 rfl ?_
  refine zv_iload_n dX8_hold_6 rfl ?_
  refine zM_put3 hn zfw_X8_75_6 dX8_hold_7 ?_
  refine zv_aload_n dX8_hold_10 rfl ?_
  refine zv_lload_n dX8_hold_11 rfl ?_
  refine zM_put4 hn zfw_X8_78_6 dX8_hold_12 ?_
  exact zv_return dX8_hold_15 rfl ⟨rfl, rfl⟩
