theorem zM_st {G : zh_G} {l : Launch} {y : MethodName} {cc : ByteArray} {n : Nat} {r : Option FieldType} {d mc ms0 pc : Nat} {lv : List (Nat × Value)} {st : List Value} {Q : Option Value → zh_H → Prop} {g : Nat → va_E} {nn : Nat} {σ1 σ2 : sg} (e : σ1 = σ2) (kk : zv G l y cc n r d mc ms0 pc lv st (ms G g σ2, nn) Q) : zv G l y cc n r d mc ms0 pc lv st (ms G g σ1, nn) Q := e ▸ kk
theorem nIs (j : Nat) : nI j + Int32.ofInt 1 = nI (j + 1) := by rw [show Int32.ofInt 1 = 1 from by decide]; exact nI_1 j
def s_z (σ : sg) (R j : Nat) : sg := (σ.1, σ.2.1, σ.2.2.1, fun a => if 16 * R ≤ a ∧ a < 16 * R + j then 0 else σ.2.2.2 a)
theorem s_z0 (σ : sg) (R : Nat) : σ = s_z σ R 0 := by
  unfold s_z
  have : (fun a => if 16 * R ≤ a ∧ a < 16 * R + 0 then (0 : Int64) else σ.2.2.2 a) = σ.2.2.2 := by
    funext a; rw [if_neg (by omega)]
  rw [this]
theorem ix16 {R j : Nat} (hR : R < 5000) (hj : j < 16) : (16 * nI R + nI j).toNatClampNeg = 16 * R + j := by
  rw [show (16 : Int32) = nI 16 from rfl, pk_mul, nI_add, nI_clamp (by omega)]
theorem in16 {R j : Nat} (hR : R < 5000) (hj : j < 16) : vp_in (16 * nI R + nI j) 80000 := by
  rw [show (16 : Int32) = nI 16 from rfl, pk_mul, nI_add]; exact vp_in_nI (by omega) (by omega)
theorem s_z_st {σ : sg} {R j : Nat} (hr : σ.1 8 = nI R) (hR : R < 5000) (hj : j < 16) : sp (s_z σ R j) (16 * (s_z σ R j).1 8 + nI j).toNatClampNeg 0 = s_z σ R (j + 1) := by
  have e : (16 * (s_z σ R j).1 8 + nI j).toNatClampNeg = 16 * R + j := by
    show (16 * σ.1 8 + nI j).toNatClampNeg = _
    rw [hr]; exact ix16 hR hj
  rw [e]
  unfold sp s_z
  simp only [Prod.mk.injEq, true_and]
  funext a
  unfold vp_updL
  by_cases ha : a = 16 * R + j
  · rw [if_pos ha, if_pos (by omega)]
  · rw [if_neg ha]
    show (if 16 * R ≤ a ∧ a < 16 * R + j then (0 : Int64) else σ.2.2.2 a) = _
    by_cases hb : 16 * R ≤ a ∧ a < 16 * R + j
    · rw [if_pos hb, if_pos (by omega)]
    · rw [if_neg hb, if_neg (by omega)]
set_option maxRecDepth 20000 in
set_option maxHeartbeats 1000000 in
theorem cM_newRow_l {G : zh_G} {l : Launch} {g : Nat → va_E} {nn : Nat} (hn : zg_B G + 28 ≤ nn) {σ : sg} {k n : Int32} {R : Nat} {Q : Option Value → zh_H → Prop} (hr : σ.1 8 = nI R) (hR : R < 5000) (kx : zv G l yX8_newRow cX8_newRow 4 (some .int) 0 0 0 49 [(3, .int (nI 16)), (0, .ref (zg_B G + 18)), (1, .int k), (2, .int n)] [] (ms G g (s_z σ R 16), nn) Q) : ∀ (m j : Nat), j + m = 16 → zv G l yX8_newRow cX8_newRow 4 (some .int) 0 0 0 22 [(3, .int (nI j)), (0, .ref (zg_B G + 18)), (1, .int k), (2, .int n)] [] (ms G g (s_z σ R j), nn) Q := by
  intro m
  induction m with
  | zero =>
    intro j hj
    have hj : j = 16 := by omega
    subst hj
    refine zv_iload_n dX8_newRow_22 rfl ?_
    refine zv_bipushv (v := 16) dX8_newRow_23 (by decide) ?_
    exact zv_icmp_ge (tgt := 49) dX8_newRow_25 (by decide) (fun _ => kx) (fun c => absurd (by decide) c)
  | succ m ih =>
    intro j hj
    refine zv_iload_n dX8_newRow_22 rfl ?_
    refine zv_bipushv (v := 16) dX8_newRow_23 (by decide) ?_
    refine zv_icmp_ge (tgt := 49) dX8_newRow_25 (by decide) (fun c25 => ?_) (fun c25 => ?_)
    · exact absurd c25 (by rw [show (16 : Int32) = nI 16 from rfl]; exact nI_ge (by omega) (by decide))
    · skip
      refine zv_aload_n dX8_newRow_28 rfl ?_
      refine zM_get hn zf_X8_27_6 rfl dX8_newRow_29 ?_
      refine zv_bipushv (v := 16) dX8_newRow_32 (by decide) ?_
      refine zv_aload_n dX8_newRow_34 rfl ?_
      refine zM_get hn zf_X8_54_6 rfl dX8_newRow_35 ?_
      refine zv_imul dX8_newRow_38 ?_
      refine zv_iload_n dX8_newRow_39 rfl ?_
      refine zv_iadd dX8_newRow_40 ?_
      refine zv_lconstv (v := 0) dX8_newRow_41 (by decide) ?_
      refine zM_ast11 hn (show vp_in (16 * σ.1 8 + nI j) 80000 by rw [hr]; exact in16 hR (by omega)) dX8_newRow_42 ?_
      refine zv_iinc dX8_newRow_43 rfl (by decide) ?_
      refine zv_goto (tgt := 22) dX8_newRow_46 (by decide) ?_
      have ih2 := ih (j + 1) (by omega)
      rw [← nIs j, ← s_z_st hr hR (by omega)] at ih2
      exact ih2
theorem newS_eq {σ : sg} {k n : Int32} {R : Nat} (hr : σ.1 8 = nI R) (hR : R < 5000) : si (s_z (sa (sa σ 9 (σ.1 8).toNatClampNeg k) 10 (σ.1 8).toNatClampNeg n) R 16) 8 (σ.1 8 + 1) = s_newS σ k n := by
  have e : (σ.1 8).toNatClampNeg = R := by rw [hr]; exact nI_clamp (by omega)
  unfold s_newS
  rw [e]
  unfold si s_z sa
  simp [va_up]
set_option maxRecDepth 20000 in
set_option maxHeartbeats 1000000 in
theorem cM_newRow {G : zh_G} {l : Launch} {g : Nat → va_E} {nn : Nat} {σ : sg} (hn : zg_B G + 28 ≤ nn) {k n : Int32} {R : Nat} (hr : σ.1 8 = nI R) (hR : R < 5000) : zc G l yX8_newRow cX8_newRow 4 (some .int) 0 [.ref (zg_B G + 18), .int k, .int n] (ms G g σ, nn) 0 0 (fun o h' => o = some (.int (σ.1 8)) ∧ h' = (ms G g (s_newS σ k n), nn)) := by
  refine zc.of (by decide) (Nat.le_of_ble_eq_true rfl) ?_
  have hi : vp_in (σ.1 8) 5000 := by rw [hr]; exact vp_in_nI hR (by decide)
  refine zv_aload_n dX8_newRow_0 rfl ?_
  refine zM_get hn zf_X8_20_6 rfl dX8_newRow_1 ?_
  refine zv_aload_n dX8_newRow_4 rfl ?_
  refine zM_get hn zf_X8_54_6 rfl dX8_newRow_5 ?_
  refine zv_iload_n dX8_newRow_8 rfl ?_
  refine zM_ast9 hn hi dX8_newRow_9 ?_
  refine zv_aload_n dX8_newRow_10 rfl ?_
  refine zM_get hn zf_X8_23_6 rfl dX8_newRow_11 ?_
  refine zv_aload_n dX8_newRow_14 rfl ?_
  refine zM_get hn zf_X8_54_6 rfl dX8_newRow_15 ?_
  refine zv_iload_n dX8_newRow_18 rfl ?_
  refine zM_ast10 hn hi dX8_newRow_19 ?_
  refine zv_iconstv (v := 0) dX8_newRow_20 (by decide) ?_
  refine zv_istore_n dX8_newRow_21 (by decide) ?_
  refine zM_st (s_z0 _ R) ?_
  refine cM_newRow_l hn (R := R) (σ := sa (sa σ 9 (σ.1 8).toNatClampNeg k) 10 (σ.1 8).toNatClampNeg n) hr hR ?_ 16 0 rfl
  refine zv_aload_n dX8_newRow_49 rfl ?_
  refine zv_dup dX8_newRow_50 rfl ?_
  refine zM_get hn zf_X8_54_6 rfl dX8_newRow_51 ?_
  refine zv_iconstv (v := 1) dX8_newRow_54 (by decide) ?_
  refine zv_iadd dX8_newRow_55 ?_
  refine zM_put8 hn zfw_X8_54_6 dX8_newRow_56 ?_
  refine zv_aload_n dX8_newRow_59 rfl ?_
  refine zM_get hn zf_X8_54_6 rfl dX8_newRow_60 ?_
  refine zv_iconstv (v := 1) dX8_newRow_63 (by decide) ?_
  refine zv_isub dX8_newRow_64 ?_
  exact zv_ireturn dX8_newRow_65 rfl ⟨by simp [si, upd, s_z, sa], by rw [← newS_eq hr hR]; rfl⟩
set_option maxRecDepth 20000 in
set_option maxHeartbeats 1000000 in
theorem cM_rack {G : zh_G} {l : Launch} {g : Nat → va_E} {nn : Nat} {σ : sg} (hn : zg_B G + 28 ≤ nn) {r k n : Int32} {R : Nat} (hr : σ.1 8 = nI R) (hR : R < 5000) : zc G l yX8_rack cX8_rack 4 (some .int) 2 [.ref (zg_B G + 18), .int r, .int k, .int n] (ms G g σ, nn) 0 0 (fun o h' => o = some (.int (a_rack r k n)) ∧ h' = (ms G g (t_rack σ r k n), nn)) := by
  refine zc.of (by decide) (Nat.le_of_ble_eq_true rfl) ?_
  refine zv_iload_n dX8_rack_0 rfl ?_
  refine zv_callSq (mc := 0) (ms := 0) zm_X8_57 zkyX8_no cM_no rfl rfl (Nat.le_of_ble_eq_true rfl) (by decide) dX8_rack_1 ?_
  refine zv_if_eq (tgt := 9) dX8_rack_4 (by decide) (fun c4 => ?_) (fun c4 => ?_)
  · skip
    refine zv_iload_n dX8_rack_9 rfl ?_
    refine zv_i2l dX8_rack_10 ?_
    refine zv_lconstv (v := 0) dX8_rack_11 (by decide) ?_
    refine zv_ldc2 dX8_rack_12 zq_X8_61 ?_
    refine zv_callSq (mc := 0) (ms := 0) zm_X8_42 zkyX8_beyond cM_beyond rfl rfl (Nat.le_of_ble_eq_true rfl) (by decide) dX8_rack_15 ?_
    refine zv_if_ne (tgt := 33) dX8_rack_18 (by decide) (fun c18 => ?_) (fun c18 => ?_)
    · skip
      refine zv_bipushv (v := (-2)) dX8_rack_33 (by decide) ?_
      exact zv_ireturn dX8_rack_35 rfl (by refine ⟨?_, ?_⟩ <;> simp_all [-Int32.not_lt, -Int32.not_le, ← Int32.not_lt, xT, xW, xK, xS, xF, xP, zb_0, zb_n, out_bey, bey_9, bey_10, bey_16, bey_7, bey_4, bey_5, bey_3, bey_m, bey_e, a_rack, t_rack, sa])
    · skip
      refine zv_iload_n dX8_rack_21 rfl ?_
      refine zv_i2l dX8_rack_22 ?_
      refine zv_lconstv (v := 0) dX8_rack_23 (by decide) ?_
      refine zv_ldc2 dX8_rack_24 zq_X8_63 ?_
      refine zv_callSq (mc := 0) (ms := 0) zm_X8_42 zkyX8_beyond cM_beyond rfl rfl (Nat.le_of_ble_eq_true rfl) (by decide) dX8_rack_27 ?_
      refine zv_if_eq (tgt := 36) dX8_rack_30 (by decide) (fun c30 => ?_) (fun c30 => ?_)
      · skip
        refine zv_aload_n dX8_rack_36 rfl ?_
        refine zM_get hn zf_X8_7_6 rfl dX8_rack_37 ?_
        refine zv_iload_n dX8_rack_40 rfl ?_
        refine zv_iconstv (v := 3) dX8_rack_41 (by decide) ?_
        refine zM_ast0 hn (no_in (zb_0.mp (by assumption))) dX8_rack_42 ?_
        refine zv_aload_n dX8_rack_43 rfl ?_
        refine zM_get hn zf_X8_13_6 rfl dX8_rack_44 ?_
        refine zv_iload_n dX8_rack_47 rfl ?_
        refine zv_aload_n dX8_rack_48 rfl ?_
        refine zv_iload_n dX8_rack_49 rfl ?_
        refine zv_iload_n dX8_rack_50 rfl ?_
        refine zM_callg hn zm_X8_65 zkyX8_newRow rfl (cM_newRow hn (σ := sa σ 0 r.toNatClampNeg 3) hr hR) rfl rfl (Nat.le_of_ble_eq_true rfl) (by decide) dX8_rack_51 (fun σ51 e51 => ?_)
        refine zM_ast1 hn (no_in (zb_0.mp (by assumption))) dX8_rack_54 ?_
        refine zv_iload_n dX8_rack_55 rfl ?_
        exact zv_ireturn dX8_rack_56 rfl (by refine ⟨?_, ?_⟩ <;> simp_all [-Int32.not_lt, -Int32.not_le, ← Int32.not_lt, xT, xW, xK, xS, xF, xP, zb_0, zb_n, out_bey, bey_9, bey_10, bey_16, bey_7, bey_4, bey_5, bey_3, bey_m, bey_e, a_rack, t_rack, sa])
      · skip
        refine zv_bipushv (v := (-2)) dX8_rack_33 (by decide) ?_
        exact zv_ireturn dX8_rack_35 rfl (by refine ⟨?_, ?_⟩ <;> simp_all [-Int32.not_lt, -Int32.not_le, ← Int32.not_lt, xT, xW, xK, xS, xF, xP, zb_0, zb_n, out_bey, bey_9, bey_10, bey_16, bey_7, bey_4, bey_5, bey_3, bey_m, bey_e, a_rack, t_rack, sa])
  · skip
    refine zv_iconstv (v := (-1)) dX8_rack_7 (by decide) ?_
    exact zv_ireturn dX8_rack_8 rfl (by refine ⟨?_, ?_⟩ <;> simp_all [-Int32.not_lt, -Int32.not_le, ← Int32.not_lt, xT, xW, xK, xS, xF, xP, zb_0, zb_n, out_bey, bey_9, bey_10, bey_16, bey_7, bey_4, bey_5, bey_3, bey_m, bey_e, a_rack, t_rack, sa])
set_option maxRecDepth 20000 in
set_option maxHeartbeats 1000000 in
theorem cM_line {G : zh_G} {l : Launch} {g : Nat → va_E} {nn : Nat} {σ : sg} (hn : zg_B G + 28 ≤ nn) {n : Int32} {R : Nat} (hr : σ.1 8 = nI R) (hR : R < 5000) : zc G l yX8_line cX8_line 2 (some .int) 1 [.ref (zg_B G + 18), .int n] (ms G g σ, nn) 0 0 (fun o h' => o = some (.int (a_line n)) ∧ h' = (ms G g (t_line σ n), nn)) := by
  refine zc.of (by decide) (Nat.le_of_ble_eq_true rfl) ?_
  refine zv_iload_n dX8_line_0 rfl ?_
  refine zv_i2l dX8_line_1 ?_
  refine zv_lconstv (v := 0) dX8_line_2 (by decide) ?_
  refine zv_ldc2 dX8_line_3 zq_X8_95 ?_
  refine zv_callSq (mc := 0) (ms := 0) zm_X8_42 zkyX8_beyond cM_beyond rfl rfl (Nat.le_of_ble_eq_true rfl) (by decide) dX8_line_6 ?_
  refine zv_if_eq (tgt := 15) dX8_line_9 (by decide) (fun c9 => ?_) (fun c9 => ?_)
  · skip
    refine zv_aload_n dX8_line_15 rfl ?_
    refine zv_iconstv (v := 3) dX8_line_16 (by decide) ?_
    refine zM_put2 hn zfw_X8_69_6 dX8_line_17 ?_
    refine zv_aload_n dX8_line_20 rfl ?_
    refine zv_aload_n dX8_line_21 rfl ?_
    refine zv_iconstv (v := 4) dX8_line_22 (by decide) ?_
    refine zv_iload_n dX8_line_23 rfl ?_
    refine zM_callg hn zm_X8_65 zkyX8_newRow rfl (cM_newRow hn (σ := si σ 2 3) hr hR) rfl rfl (Nat.le_of_ble_eq_true rfl) (by decide) dX8_line_24 (fun σ24 e24 => ?_)
    refine zM_put5 hn zfw_X8_72_6 dX8_line_27 ?_
    refine zv_iconstv (v := 1) dX8_line_30 (by decide) ?_
    exact zv_ireturn dX8_line_31 rfl (by refine ⟨?_, ?_⟩ <;> simp_all [-Int32.not_lt, -Int32.not_le, ← Int32.not_lt, xT, xW, xK, xS, xF, xP, zb_0, zb_n, out_bey, bey_9, bey_10, bey_16, bey_7, bey_4, bey_5, bey_3, bey_m, bey_e, a_line, t_line, si, upd])
  · skip
    refine zv_bipushv (v := (-2)) dX8_line_12 (by decide) ?_
    exact zv_ireturn dX8_line_14 rfl (by refine ⟨?_, ?_⟩ <;> simp_all [-Int32.not_lt, -Int32.not_le, ← Int32.not_lt, xT, xW, xK, xS, xF, xP, zb_0, zb_n, out_bey, bey_9, bey_10, bey_16, bey_7, bey_4, bey_5, bey_3, bey_m, bey_e, a_line, t_line, si, upd])
