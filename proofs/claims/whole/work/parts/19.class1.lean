section ZR
variable {G : zh_G} {l : Launch} {y : MethodName} {cc : ByteArray} {n : Nat} {r : Option FieldType} {d mc ms0 pc : Nat} {lv : List (Nat × Value)} {st : List Value} {h : zh_H} {Q : Option Value → zh_H → Prop}
theorem zv_aloadr_n {k : Fin 4} {x : Option Nat} (hd : decode cc pc = .ok (.aload_n k, 1)) (hk : zl lv k = some (va_rf x)) (kk : zv G l y cc n r d mc ms0 (pc + 1) lv (va_rf x :: st) h Q) : zv G l y cc n r d mc ms0 pc lv st h Q := by
  cases x with
  | none => exact zv_aload_nN hd hk kk
  | some a => exact zv_aload_n hd hk kk
theorem zv_aloadr {k : Nat} {x : Option Nat} (hd : decode cc pc = .ok (.aload k, 2)) (hk : zl lv k = some (va_rf x)) (kk : zv G l y cc n r d mc ms0 (pc + 2) lv (va_rf x :: st) h Q) : zv G l y cc n r d mc ms0 pc lv st h Q := by
  cases x with
  | none => exact zv_aloadN hd hk kk
  | some a => exact zv_aload hd hk kk
theorem zv_astorer_n {k : Fin 4} {x : Option Nat} (hd : decode cc pc = .ok (.astore_n k, 1)) (hn : (k : Nat) < n) (kk : zv G l y cc n r d mc ms0 (pc + 1) (zs1 lv k (va_rf x)) st h Q) : zv G l y cc n r d mc ms0 pc lv (va_rf x :: st) h Q := by
  cases x with
  | none =>
    intro p e R s m args below meth c Qf C H locs cells slots ls hW hL h1 h2 hl
    exact lv_astore_nN C.1.1 C.1.2.1 hd rfl hl hn rfl (fun ls hl => kk p e R s m args below meth c Qf C H locs cells slots ls hW hL h1 h2 hl)
  | some a => exact zv_astore_n hd hn kk
end ZR
def gi (k o : Int32) : Bool := decide (¬ k < 0 ∧ k < 11 ∧ (zg_tab k.toNatClampNeg >>> (o &&& 31)) &&& 1 = 1)
theorem gi_in {k : Int32} (h1 : ¬ k < 0) (h2 : ¬ 11 ≤ k) : vp_in k 11 := by
  rw [vp_in_iff]
  simp only [Int32.not_lt, Int32.not_le, Int32.le_iff_toInt_le, Int32.lt_iff_toInt_lt] at h1 h2
  have e1 : (0 : Int32).toInt = 0 := by decide
  have e2 : (11 : Int32).toInt = 11 := by decide
  omega
def co (i S : Int32) : Bool := decide (i < 0 ∨ S ≤ i)
theorem co_in {i : Int32} {s : Nat} (hs : s ≤ 16) (h : co i (nI s) = false) : vp_in i s := by
  rw [vp_in_iff]
  unfold co at h
  simp only [decide_eq_false_iff_not, not_or, Int32.not_lt, Int32.not_le, Int32.le_iff_toInt_le, Int32.lt_iff_toInt_lt, nI_toInt (show s < 2 ^ 31 by omega)] at h
  have e1 : (0 : Int32).toInt = 0 := by decide
  omega
theorem co_out (i : Int32) {s : Nat} (hs : s ≤ 16) : s_out i (nI s) = co i (nI s) := by
  unfold s_out co
  congr 1
  apply propext
  simp only [Int32.lt_iff_toInt_lt, Int32.le_iff_toInt_le]
  have e1 : (nI s - 1).toInt = (s : Int) - 1 := by
    rw [show (1 : Int32) = nI 1 from rfl]; exact pk_sub_toInt (by omega) (by decide)
  rw [e1, nI_toInt (show s < 2 ^ 31 by omega)]
  have e0 : (0 : Int32).toInt = 0 := by decide
  omega
set_option maxRecDepth 20000 in
set_option maxHeartbeats 1000000 in
theorem cX_isRack {G : zh_G} {l : Launch} {h : zh_H} {r : Int32} : zc G l yX7_isRack cX7_isRack 1 (some .boolean) 0 [.int r] h 0 0 (fun o h' => o = some (.int (zb (!(s_no r)))) ∧ h' = h) := by
  refine zc.of (by decide) (Nat.le_of_ble_eq_true rfl) ?_
  refine zv_iload_n dX7_isRack_0 rfl ?_
  refine zv_if_lt (tgt := 14) dX7_isRack_1 (by decide) (fun c1 => ?_) (fun c1 => ?_)
  · skip
    refine zv_iconstv (v := 0) dX7_isRack_14 (by decide) ?_
    exact zv_zreturn dX7_isRack_15 rfl (by decide) (by refine ⟨?_, rfl⟩; simp only [zb, s_no, s_rng, Int32.lt_iff_toInt_lt, Int32.le_iff_toInt_le, Int32.not_lt, Int32.not_le, show (0 : Int32).toInt = 0 from rfl, show (7 : Int32).toInt = 7 from rfl, show (8 : Int32).toInt = 8 from rfl, show (9 : Int32).toInt = 9 from rfl, show (10 : Int32).toInt = 10 from rfl] at *; first | (rw [if_pos (by rw [Bool.not_eq_true', decide_eq_false_iff_not]; omega)]) | (rw [if_neg (by rw [Bool.not_eq_true', decide_eq_false_iff_not]; omega)]))
  · skip
    refine zv_iload_n dX7_isRack_4 rfl ?_
    refine zv_bipushv (v := 10) dX7_isRack_5 (by decide) ?_
    refine zv_icmp_ge (tgt := 14) dX7_isRack_7 (by decide) (fun c7 => ?_) (fun c7 => ?_)
    · skip
      refine zv_iconstv (v := 0) dX7_isRack_14 (by decide) ?_
      exact zv_zreturn dX7_isRack_15 rfl (by decide) (by refine ⟨?_, rfl⟩; simp only [zb, s_no, s_rng, Int32.lt_iff_toInt_lt, Int32.le_iff_toInt_le, Int32.not_lt, Int32.not_le, show (0 : Int32).toInt = 0 from rfl, show (7 : Int32).toInt = 7 from rfl, show (8 : Int32).toInt = 8 from rfl, show (9 : Int32).toInt = 9 from rfl, show (10 : Int32).toInt = 10 from rfl] at *; first | (rw [if_pos (by rw [Bool.not_eq_true', decide_eq_false_iff_not]; omega)]) | (rw [if_neg (by rw [Bool.not_eq_true', decide_eq_false_iff_not]; omega)]))
    · skip
      refine zv_iconstv (v := 1) dX7_isRack_10 (by decide) ?_
      refine zv_goto (tgt := 15) dX7_isRack_11 (by decide) ?_
      exact zv_zreturn dX7_isRack_15 rfl (by decide) (by refine ⟨?_, rfl⟩; simp only [zb, s_no, s_rng, Int32.lt_iff_toInt_lt, Int32.le_iff_toInt_le, Int32.not_lt, Int32.not_le, show (0 : Int32).toInt = 0 from rfl, show (7 : Int32).toInt = 7 from rfl, show (8 : Int32).toInt = 8 from rfl, show (9 : Int32).toInt = 9 from rfl, show (10 : Int32).toInt = 10 from rfl] at *; first | (rw [if_pos (by rw [Bool.not_eq_true', decide_eq_false_iff_not]; omega)]) | (rw [if_neg (by rw [Bool.not_eq_true', decide_eq_false_iff_not]; omega)]))
set_option maxRecDepth 20000 in
set_option maxHeartbeats 1000000 in
theorem cX_isNK {G : zh_G} {l : Launch} {h : zh_H} {k : Int32} : zc G l yX7_isNumberKind cX7_isNumberKind 1 (some .boolean) 0 [.int k] h 0 0 (fun o h' => o = some (.int (zb (!(s_rng k 0 7)))) ∧ h' = h) := by
  refine zc.of (by decide) (Nat.le_of_ble_eq_true rfl) ?_
  refine zv_iload_n dX7_isNumberKind_0 rfl ?_
  refine zv_if_lt (tgt := 14) dX7_isNumberKind_1 (by decide) (fun c1 => ?_) (fun c1 => ?_)
  · skip
    refine zv_iconstv (v := 0) dX7_isNumberKind_14 (by decide) ?_
    exact zv_zreturn dX7_isNumberKind_15 rfl (by decide) (by refine ⟨?_, rfl⟩; simp only [zb, s_no, s_rng, Int32.lt_iff_toInt_lt, Int32.le_iff_toInt_le, Int32.not_lt, Int32.not_le, show (0 : Int32).toInt = 0 from rfl, show (7 : Int32).toInt = 7 from rfl, show (8 : Int32).toInt = 8 from rfl, show (9 : Int32).toInt = 9 from rfl, show (10 : Int32).toInt = 10 from rfl] at *; first | (rw [if_pos (by rw [Bool.not_eq_true', decide_eq_false_iff_not]; omega)]) | (rw [if_neg (by rw [Bool.not_eq_true', decide_eq_false_iff_not]; omega)]))
  · skip
    refine zv_iload_n dX7_isNumberKind_4 rfl ?_
    refine zv_bipushv (v := 8) dX7_isNumberKind_5 (by decide) ?_
    refine zv_icmp_ge (tgt := 14) dX7_isNumberKind_7 (by decide) (fun c7 => ?_) (fun c7 => ?_)
    · skip
      refine zv_iconstv (v := 0) dX7_isNumberKind_14 (by decide) ?_
      exact zv_zreturn dX7_isNumberKind_15 rfl (by decide) (by refine ⟨?_, rfl⟩; simp only [zb, s_no, s_rng, Int32.lt_iff_toInt_lt, Int32.le_iff_toInt_le, Int32.not_lt, Int32.not_le, show (0 : Int32).toInt = 0 from rfl, show (7 : Int32).toInt = 7 from rfl, show (8 : Int32).toInt = 8 from rfl, show (9 : Int32).toInt = 9 from rfl, show (10 : Int32).toInt = 10 from rfl] at *; first | (rw [if_pos (by rw [Bool.not_eq_true', decide_eq_false_iff_not]; omega)]) | (rw [if_neg (by rw [Bool.not_eq_true', decide_eq_false_iff_not]; omega)]))
    · skip
      refine zv_iconstv (v := 1) dX7_isNumberKind_10 (by decide) ?_
      refine zv_goto (tgt := 15) dX7_isNumberKind_11 (by decide) ?_
      exact zv_zreturn dX7_isNumberKind_15 rfl (by decide) (by refine ⟨?_, rfl⟩; simp only [zb, s_no, s_rng, Int32.lt_iff_toInt_lt, Int32.le_iff_toInt_le, Int32.not_lt, Int32.not_le, show (0 : Int32).toInt = 0 from rfl, show (7 : Int32).toInt = 7 from rfl, show (8 : Int32).toInt = 8 from rfl, show (9 : Int32).toInt = 9 from rfl, show (10 : Int32).toInt = 10 from rfl] at *; first | (rw [if_pos (by rw [Bool.not_eq_true', decide_eq_false_iff_not]; omega)]) | (rw [if_neg (by rw [Bool.not_eq_true', decide_eq_false_iff_not]; omega)]))
set_option maxRecDepth 20000 in
set_option maxHeartbeats 1000000 in
theorem cX_goes {G : zh_G} {l : Launch} {h : zh_H} {k o1 : Int32} : zc G l yX7_goesInto cX7_goesInto 2 (some .boolean) 0 [.int k, .int o1] h 0 0 (fun o h' => o = some (.int (zb (gi k o1))) ∧ h' = h) := by
  refine zc.of (by decide) (Nat.le_of_ble_eq_true rfl) ?_
  refine zv_iload_n dX7_goesInto_0 rfl ?_
  refine zv_if_lt (tgt := 27) dX7_goesInto_1 (by decide) (fun c1 => ?_) (fun c1 => ?_)
  · skip
    refine zv_iconstv (v := 0) dX7_goesInto_27 (by decide) ?_
    exact zv_zreturn dX7_goesInto_28 rfl (by decide) (by refine ⟨?_, rfl⟩; simp_all [-Int32.not_lt, -Int32.not_le, ← Int32.not_lt, gi, zb])
  · skip
    refine zv_iload_n dX7_goesInto_4 rfl ?_
    refine zv_bipushv (v := 11) dX7_goesInto_5 (by decide) ?_
    refine zv_icmp_ge (tgt := 27) dX7_goesInto_7 (by decide) (fun c7 => ?_) (fun c7 => ?_)
    · skip
      refine zv_iconstv (v := 0) dX7_goesInto_27 (by decide) ?_
      exact zv_zreturn dX7_goesInto_28 rfl (by decide) (by refine ⟨?_, rfl⟩; simp_all [-Int32.not_lt, -Int32.not_le, ← Int32.not_lt, gi, zb])
    · skip
      refine zv_gets zg_goes dX7_goesInto_10 ?_
      refine zv_iload_n dX7_goesInto_13 rfl ?_
      refine zv_gald (gi_in (by assumption) (by assumption)) dX7_goesInto_14 ?_
      refine zv_iload_n dX7_goesInto_15 rfl ?_
      refine zv_ishr dX7_goesInto_16 ?_
      refine zv_iconstv (v := 1) dX7_goesInto_17 (by decide) ?_
      refine zv_iand dX7_goesInto_18 ?_
      refine zv_iconstv (v := 1) dX7_goesInto_19 (by decide) ?_
      refine zv_icmp_ne (tgt := 27) dX7_goesInto_20 (by decide) (fun c20 => ?_) (fun c20 => ?_)
      · skip
        refine zv_iconstv (v := 0) dX7_goesInto_27 (by decide) ?_
        exact zv_zreturn dX7_goesInto_28 rfl (by decide) (by refine ⟨?_, rfl⟩; simp_all [-Int32.not_lt, -Int32.not_le, ← Int32.not_lt, gi, zb])
      · skip
        refine zv_iconstv (v := 1) dX7_goesInto_23 (by decide) ?_
        refine zv_goto (tgt := 28) dX7_goesInto_24 (by decide) ?_
        exact zv_zreturn dX7_goesInto_28 rfl (by decide) (by refine ⟨?_, rfl⟩; simp_all [-Int32.not_lt, -Int32.not_le, ← Int32.not_lt, gi, zb])
set_option maxRecDepth 20000 in
set_option maxHeartbeats 1000000 in
theorem cX_as {G : zh_G} {l : Launch} {h : zh_H} {k : Int32} {v : Int64} : zc G l yX7_asKind cX7_asKind 3 (some .long) 0 [.int k, .long v] h 0 0 (fun o h' => o = some (.long (s_as k v)) ∧ h' = h) := by
  refine zc.of (by decide) (Nat.le_of_ble_eq_true rfl) ?_
  refine zv_iload_n dX7_asKind_0 rfl ?_
  by_cases e0 : k = 0
  · subst e0
    refine zv_tableIn (tgt := 44) dX7_asKind_1 (by decide) (by decide) rfl (by decide) ?_
    refine zv_lload_n dX7_asKind_44 rfl ?_
    refine zv_lconstv (v := 0) dX7_asKind_45 (by decide) ?_
    refine zv_lcmp dX7_asKind_46 ?_
    refine zv_if_eq (tgt := 54) dX7_asKind_47 (by decide) (fun c47 => ?_) (fun c47 => ?_)
    · skip
      refine zv_lconstv (v := 0) dX7_asKind_54 (by decide) ?_
      exact zv_lreturn dX7_asKind_55 rfl (by refine ⟨?_, rfl⟩; simp_all [s_as, cmp_eq])
    · skip
      refine zv_lconstv (v := 1) dX7_asKind_50 (by decide) ?_
      refine zv_goto (tgt := 55) dX7_asKind_51 (by decide) ?_
      exact zv_lreturn dX7_asKind_55 rfl (by refine ⟨?_, rfl⟩; simp_all [s_as, cmp_eq])
  by_cases e1 : k = 1
  · subst e1
    refine zv_tableIn (tgt := 56) dX7_asKind_1 (by decide) (by decide) rfl (by decide) ?_
    refine zv_lload_n dX7_asKind_56 rfl ?_
    refine zv_l2i dX7_asKind_57 ?_
    refine zv_i2b dX7_asKind_58 ?_
    refine zv_i2l dX7_asKind_59 ?_
    exact zv_lreturn dX7_asKind_60 rfl (by refine ⟨?_, rfl⟩; simp_all [s_as, cmp_eq])
  by_cases e2 : k = 2
  · subst e2
    refine zv_tableIn (tgt := 61) dX7_asKind_1 (by decide) (by decide) rfl (by decide) ?_
    refine zv_lload_n dX7_asKind_61 rfl ?_
    refine zv_l2i dX7_asKind_62 ?_
    refine zv_i2c dX7_asKind_63 ?_
    refine zv_i2l dX7_asKind_64 ?_
    exact zv_lreturn dX7_asKind_65 rfl (by refine ⟨?_, rfl⟩; simp_all [s_as, cmp_eq])
  by_cases e3 : k = 3
  · subst e3
    refine zv_tableIn (tgt := 66) dX7_asKind_1 (by decide) (by decide) rfl (by decide) ?_
    refine zv_lload_n dX7_asKind_66 rfl ?_
    refine zv_l2i dX7_asKind_67 ?_
    refine zv_i2s dX7_asKind_68 ?_
    refine zv_i2l dX7_asKind_69 ?_
    exact zv_lreturn dX7_asKind_70 rfl (by refine ⟨?_, rfl⟩; simp_all [s_as, cmp_eq])
  by_cases e4 : k = 4
  · subst e4
    refine zv_tableIn (tgt := 71) dX7_asKind_1 (by decide) (by decide) rfl (by decide) ?_
    refine zv_lload_n dX7_asKind_71 rfl ?_
    refine zv_l2i dX7_asKind_72 ?_
    refine zv_i2l dX7_asKind_73 ?_
    exact zv_lreturn dX7_asKind_74 rfl (by refine ⟨?_, rfl⟩; simp_all [s_as, cmp_eq])
  by_cases e5 : k = 5
  · subst e5
    refine zv_tableIn (tgt := 75) dX7_asKind_1 (by decide) (by decide) rfl (by decide) ?_
    refine zv_lload_n dX7_asKind_75 rfl ?_
    exact zv_lreturn dX7_asKind_76 rfl (by refine ⟨?_, rfl⟩; simp_all [s_as, cmp_eq])
  by_cases e6 : k = 6
  · subst e6
    refine zv_tableIn (tgt := 77) dX7_asKind_1 (by decide) (by decide) rfl (by decide) ?_
    refine zv_lload_n dX7_asKind_77 rfl ?_
    refine zv_l2f dX7_asKind_78 ?_
    refine zv_f2l dX7_asKind_79 ?_
    exact zv_lreturn dX7_asKind_80 rfl (by refine ⟨?_, rfl⟩; simp_all [s_as, cmp_eq])
  have hout : k.toInt < 0 ∨ 6 < k.toInt := by
    have := lv_neT (a := 0) e0 (by decide); have := lv_neT (a := 1) e1 (by decide); have := lv_neT (a := 2) e2 (by decide); have := lv_neT (a := 3) e3 (by decide); have := lv_neT (a := 4) e4 (by decide); have := lv_neT (a := 5) e5 (by decide); have := lv_neT (a := 6) e6 (by decide)
    omega
  refine zv_tableOut (tgt := 81) dX7_asKind_1 hout (by decide) ?_
  refine zv_lload_n dX7_asKind_81 rfl ?_
  refine zv_l2d dX7_asKind_82 ?_
  refine zv_d2l dX7_asKind_83 ?_
  exact zv_lreturn dX7_asKind_84 rfl (by refine ⟨?_, rfl⟩; simp_all [s_as, cmp_eq])
set_option maxRecDepth 20000 in
set_option maxHeartbeats 1000000 in
theorem cX_holdN {G : zh_G} {l : Launch} {f : Nat → va_E} {nn : Nat} {c : Nat} {k0 a0 t0 : Value} (hc : f c = .inr (0, [k0, a0, t0])) (hc1 : zg_B G ≤ c) (hc2 : c < nn) {k : Int32} {v : Int64} : zc G l yX0_holdNumber cX0_holdNumber 4 none 1 [.ref c, .int k, .long v] (f, nn) 0 0 (fun o h' => o = none ∧ h' = (va_up f c (.inr (0, [.int k, .long (s_as k v), .null])), nn)) := by
  refine zc.of (by decide) (Nat.le_of_ble_eq_true rfl) ?_
  refine zv_aload_n dX0_holdNumber_0 rfl ?_
  refine zv_iload_n dX0_holdNumber_1 rfl ?_
  refine zv_put (fs := [k0, a0, t0]) zfw_X0_9_0 (by simp [va_up, hc]) hc1 hc2 rfl rfl (by simp) dX0_holdNumber_2 ?_
  refine zv_aload_n dX0_holdNumber_5 rfl ?_
  refine zv_iload_n dX0_holdNumber_6 rfl ?_
  refine zv_lload_n dX0_holdNumber_7 rfl ?_
  refine zv_callSq (mc := 0) (ms := 0) zm_X0_15 zkyX7_asKind cX_as rfl rfl (Nat.le_of_ble_eq_true rfl) (by decide) dX0_holdNumber_8 ?_
  refine zv_put (fs := [.int k, a0, t0]) zfw_X0_19_0 (by simp [va_up, hc]) hc1 hc2 rfl rfl (by simp) dX0_holdNumber_11 ?_
  refine zv_aload_n dX0_holdNumber_14 rfl ?_
  refine zv_null dX0_holdNumber_15 ?_
  refine zv_put (fs := [.int k, .long (s_as k v), t0]) zfw_X0_23_0 (by simp [va_up, hc]) hc1 hc2 rfl rfl (by simp) dX0_holdNumber_16 ?_
  exact zv_return dX0_holdNumber_19 rfl ⟨rfl, by simp [bx_uu]⟩
set_option maxRecDepth 20000 in
set_option maxHeartbeats 1000000 in
theorem cX_holdT0 {G : zh_G} {l : Launch} {f : Nat → va_E} {nn : Nat} {c : Nat} {k0 a0 t0 : Value} (hc : f c = .inr (0, [k0, a0, t0])) (hc1 : zg_B G ≤ c) (hc2 : c < nn)  : zc G l yX0_holdThing cX0_holdThing 4 none 0 [.ref c, .null] (f, nn) 0 0 (fun o h' => o = none ∧ h' = (va_up f c (.inr (0, [.int (-9), .long 0, .null])), nn)) := by
  refine zc.of (by decide) (Nat.le_of_ble_eq_true rfl) ?_
  refine zv_aload_n dX0_holdThing_0 rfl ?_
  refine zv_aload_nN dX0_holdThing_1 rfl ?_
  refine zv_put (fs := [k0, a0, t0]) zfw_X0_23_0 (by simp [va_up, hc]) hc1 hc2 rfl rfl (by simp) dX0_holdThing_2 ?_
  refine zv_aload_nN dX0_holdThing_5 rfl ?_
  refine zv_instN dX0_holdThing_6 ?_
  refine zv_if_eq (tgt := 47) dX0_holdThing_9 (by decide) (fun _ => ?_) (fun c => absurd rfl c)
  refine zv_aload_nN dX0_holdThing_47 rfl ?_
  refine zv_instN dX0_holdThing_48 ?_
  refine zv_if_eq (tgt := 77) dX0_holdThing_51 (by decide) (fun _ => ?_) (fun c => absurd rfl c)
  refine zv_aload_n dX0_holdThing_77 rfl ?_
  refine zv_bipushv (v := (-9)) dX0_holdThing_78 (by decide) ?_
  refine zv_put (fs := [k0, a0, .null]) zfw_X0_9_0 (by simp [va_up, hc]) hc1 hc2 rfl rfl (by simp) dX0_holdThing_80 ?_
  refine zv_aload_n dX0_holdThing_83 rfl ?_
  refine zv_lconstv (v := 0) dX0_holdThing_84 (by decide) ?_
  refine zv_put (fs := [.int (-9), a0, .null]) zfw_X0_19_0 (by simp [va_up, hc]) hc1 hc2 rfl rfl (by simp) dX0_holdThing_85 ?_
  exact zv_return dX0_holdThing_88 rfl ⟨rfl, by simp [bx_uu]⟩
theorem zv_top {G : zh_G} {l : Launch} {y : MethodName} {cc : ByteArray} {n : Nat} {r : Option FieldType} {d mc ms0 pc : Nat} {lv : List (Nat × Value)} {st : List Value} {h : zh_H} {Q : Option Value → zh_H → Prop} {x x' : Int32} (e : x = x') (kk : zv G l y cc n r d mc ms0 pc lv (.int x' :: st) h Q) : zv G l y cc n r d mc ms0 pc lv (.int x :: st) h Q := e ▸ kk
set_option maxRecDepth 20000 in
set_option maxHeartbeats 1000000 in
theorem cX_holdTP {G : zh_G} {l : Launch} {f : Nat → va_E} {nn : Nat} {c : Nat} {k0 a0 t0 : Value} (hc : f c = .inr (0, [k0, a0, t0])) (hc1 : zg_B G ≤ c) (hc2 : c < nn) {a : Nat} {p fn : Int32} (ha : f a = .inr (2, [.int p, .int fn])) (ha1 : zg_B G ≤ a) (ha2 : a < nn) (hac : ¬ a = c) : zc G l yX0_holdThing cX0_holdThing 4 none 0 [.ref c, .ref a] (f, nn) 0 0 (fun o h' => o = none ∧ h' = (va_up f c (.inr (0, [.int (if fn = 0 then 8 else 9), .long p.toInt64, .ref a])), nn)) := by
  refine zc.of (by decide) (Nat.le_of_ble_eq_true rfl) ?_
  refine zv_aload_n dX0_holdThing_0 rfl ?_
  refine zv_aload_n dX0_holdThing_1 rfl ?_
  refine zv_put (fs := [k0, a0, t0]) zfw_X0_23_0 (by simp [va_up, hc]) hc1 hc2 rfl rfl (by simp) dX0_holdThing_2 ?_
  refine zv_aload_n dX0_holdThing_5 rfl ?_
  refine zv_instY (ci := 2) (fs := [.int p, .int fn]) (by simp [va_up, hac, ha]) ha1 ha2 rfl zk_X0_27 (by decide +kernel) dX0_holdThing_6 ?_
  refine zv_if_eq (tgt := 47) dX0_holdThing_9 (by decide) (fun c => absurd c (by decide)) (fun _ => ?_)
  refine zv_aload_n dX0_holdThing_12 rfl ?_
  refine zv_castY (ci := 2) (fs := [.int p, .int fn]) (by simp [va_up, hac, ha]) ha1 ha2 rfl zk_X0_27 (by decide +kernel) dX0_holdThing_13 ?_
  refine zv_astore_n dX0_holdThing_16 (by decide) ?_
  refine zv_aload_n dX0_holdThing_17 rfl ?_
  refine zv_aload_n dX0_holdThing_18 rfl ?_
  refine zv_get (ci := 2) (fs := [.int p, .int fn]) zf_X0_29_2 (by simp [va_up, hac, ha]) ha1 ha2 rfl dX0_holdThing_19 ?_
  refine zv_if_eq (tgt := 30) dX0_holdThing_22 (by decide) (fun c22 => ?_) (fun c22 => ?_)
  · skip
    refine zv_bipushv (v := 8) dX0_holdThing_30 (by decide) ?_
    refine zv_top (x' := if fn = 0 then 8 else 9) (by simp [c22]) ?_
    refine zv_put (fs := [k0, a0, .ref a]) zfw_X0_9_0 (by simp [va_up, hc]) hc1 hc2 rfl rfl (by simp) dX0_holdThing_32 ?_
    refine zv_aload_n dX0_holdThing_35 rfl ?_
    refine zv_aload_n dX0_holdThing_36 rfl ?_
    refine zv_get (ci := 2) (fs := [.int p, .int fn]) zf_X0_33_2 (by simp [va_up, hac, ha]) ha1 ha2 rfl dX0_holdThing_37 ?_
    refine zv_i2l dX0_holdThing_40 ?_
    refine zv_put (fs := [.int (if fn = 0 then 8 else 9), a0, .ref a]) zfw_X0_19_0 (by simp [va_up, hc]) hc1 hc2 rfl rfl (by simp) dX0_holdThing_41 ?_
    refine zv_goto (tgt := 88) dX0_holdThing_44 (by decide) ?_
    exact zv_return dX0_holdThing_88 rfl ⟨rfl, by simp [bx_uu]⟩
  · skip
    refine zv_bipushv (v := 9) dX0_holdThing_25 (by decide) ?_
    refine zv_goto (tgt := 32) dX0_holdThing_27 (by decide) ?_
    refine zv_top (x' := if fn = 0 then 8 else 9) (by simp [c22]) ?_
    refine zv_put (fs := [k0, a0, .ref a]) zfw_X0_9_0 (by simp [va_up, hc]) hc1 hc2 rfl rfl (by simp) dX0_holdThing_32 ?_
    refine zv_aload_n dX0_holdThing_35 rfl ?_
    refine zv_aload_n dX0_holdThing_36 rfl ?_
    refine zv_get (ci := 2) (fs := [.int p, .int fn]) zf_X0_33_2 (by simp [va_up, hac, ha]) ha1 ha2 rfl dX0_holdThing_37 ?_
    refine zv_i2l dX0_holdThing_40 ?_
    refine zv_put (fs := [.int (if fn = 0 then 8 else 9), a0, .ref a]) zfw_X0_19_0 (by simp [va_up, hc]) hc1 hc2 rfl rfl (by simp) dX0_holdThing_41 ?_
    refine zv_goto (tgt := 88) dX0_holdThing_44 (by decide) ?_
    exact zv_return dX0_holdThing_88 rfl ⟨rfl, by simp [bx_uu]⟩
set_option maxRecDepth 20000 in
set_option maxHeartbeats 1000000 in
theorem cX_holdTR {G : zh_G} {l : Launch} {f : Nat → va_E} {nn : Nat} {c : Nat} {k0 a0 t0 : Value} (hc : f c = .inr (0, [k0, a0, t0])) (hc1 : zg_B G ≤ c) (hc2 : c < nn) {a b : Nat} {K S : Int32} (ha : f a = .inr (1, [.int K, .int S, .ref b])) (ha1 : zg_B G ≤ a) (ha2 : a < nn) (hac : ¬ a = c) : zc G l yX0_holdThing cX0_holdThing 4 none 0 [.ref c, .ref a] (f, nn) 0 0 (fun o h' => o = none ∧ h' = (va_up f c (.inr (0, [.int 10, .long S.toInt64, .ref a])), nn)) := by
  refine zc.of (by decide) (Nat.le_of_ble_eq_true rfl) ?_
  refine zv_aload_n dX0_holdThing_0 rfl ?_
  refine zv_aload_n dX0_holdThing_1 rfl ?_
  refine zv_put (fs := [k0, a0, t0]) zfw_X0_23_0 (by simp [va_up, hc]) hc1 hc2 rfl rfl (by simp) dX0_holdThing_2 ?_
  refine zv_aload_n dX0_holdThing_5 rfl ?_
  refine zv_instNo (ci := 1) (fs := [.int K, .int S, .ref b]) (by simp [va_up, hac, ha]) ha1 ha2 rfl zk_X0_27 (by decide +kernel) dX0_holdThing_6 ?_
  refine zv_if_eq (tgt := 47) dX0_holdThing_9 (by decide) (fun _ => ?_) (fun c => absurd rfl c)
  refine zv_aload_n dX0_holdThing_47 rfl ?_
  refine zv_instY (ci := 1) (fs := [.int K, .int S, .ref b]) (by simp [va_up, hac, ha]) ha1 ha2 rfl zk_X0_36 (by decide +kernel) dX0_holdThing_48 ?_
  refine zv_if_eq (tgt := 77) dX0_holdThing_51 (by decide) (fun c => absurd c (by decide)) (fun _ => ?_)
  refine zv_aload_n dX0_holdThing_54 rfl ?_
  refine zv_castY (ci := 1) (fs := [.int K, .int S, .ref b]) (by simp [va_up, hac, ha]) ha1 ha2 rfl zk_X0_36 (by decide +kernel) dX0_holdThing_55 ?_
  refine zv_astore_n dX0_holdThing_58 (by decide) ?_
  refine zv_aload_n dX0_holdThing_59 rfl ?_
  refine zv_bipushv (v := 10) dX0_holdThing_60 (by decide) ?_
  refine zv_put (fs := [k0, a0, .ref a]) zfw_X0_9_0 (by simp [va_up, hc]) hc1 hc2 rfl rfl (by simp) dX0_holdThing_62 ?_
  refine zv_aload_n dX0_holdThing_65 rfl ?_
  refine zv_aload_n dX0_holdThing_66 rfl ?_
  refine zv_get (ci := 1) (fs := [.int K, .int S, .ref b]) zf_X0_38_1 (by simp [va_up, hac, ha]) ha1 ha2 rfl dX0_holdThing_67 ?_
  refine zv_i2l dX0_holdThing_70 ?_
  refine zv_put (fs := [.int 10, a0, .ref a]) zfw_X0_19_0 (by simp [va_up, hc]) hc1 hc2 rfl rfl (by simp) dX0_holdThing_71 ?_
  refine zv_goto (tgt := 88) dX0_holdThing_74 (by decide) ?_
  exact zv_return dX0_holdThing_88 rfl ⟨rfl, by simp [bx_uu]⟩
