theorem co_f {i S : Int32} (h : co i S = false) : ¬ i < 0 ∧ i < S := by
  unfold co at h
  simp only [decide_eq_false_iff_not, not_or, Int32.not_le] at h
  exact h
theorem co_t {i S : Int32} (h : co i S = true) : i < 0 ∨ ¬ i < S := by
  unfold co at h
  simp only [decide_eq_true_iff] at h
  exact h.imp id (fun h => Int32.not_lt.mpr h)
set_option maxRecDepth 20000 in
set_option maxHeartbeats 1000000 in
theorem cX_rowF0 {G : zh_G} {l : Launch} {f : Nat → va_E} {nn : Nat}  : zc G l yX7_rowFault cX7_rowFault 1 (some .int) 0 [.null] (f, nn) 0 0 (fun o h' => o = some (.int 1) ∧ h' = (f, nn)) := by
  refine zc.of (by decide) (Nat.le_of_ble_eq_true rfl) ?_
  refine zv_aload_nN dX7_rowFault_0 rfl ?_
  refine zv_ifnonnullN dX7_rowFault_1 ?_
  refine zv_iconstv (v := 1) dX7_rowFault_4 (by decide) ?_
  exact zv_ireturn dX7_rowFault_5 rfl ⟨rfl, rfl⟩
set_option maxRecDepth 20000 in
set_option maxHeartbeats 1000000 in
theorem cX_rowFP {G : zh_G} {l : Launch} {f : Nat → va_E} {nn : Nat} {a : Nat} {p fn : Int32} (ha : f a = .inr (2, [.int p, .int fn])) (ha1 : zg_B G ≤ a) (ha2 : a < nn)  : zc G l yX7_rowFault cX7_rowFault 1 (some .int) 0 [.ref a] (f, nn) 0 0 (fun o h' => o = some (.int 2) ∧ h' = (f, nn)) := by
  refine zc.of (by decide) (Nat.le_of_ble_eq_true rfl) ?_
  refine zv_aload_n dX7_rowFault_0 rfl ?_
  refine zv_ifnonnull (tgt := 6) dX7_rowFault_1 (by decide) ?_
  refine zv_aload_n dX7_rowFault_6 rfl ?_
  refine zv_instNo (ci := 2) (fs := [.int p, .int fn]) ha ha1 ha2 rfl zk_X7_151 (by decide +kernel) dX7_rowFault_7 ?_
  refine zv_if_eq (tgt := 17) dX7_rowFault_10 (by decide) (fun _ => ?_) (fun c => absurd rfl c)
  refine zv_iconstv (v := 2) dX7_rowFault_17 (by decide) ?_
  exact zv_ireturn dX7_rowFault_18 rfl ⟨rfl, rfl⟩
set_option maxRecDepth 20000 in
set_option maxHeartbeats 1000000 in
theorem cX_rowFN {G : zh_G} {l : Launch} {f : Nat → va_E} {nn : Nat} {a b s : Nat} {K : Int32} {num : Nat → Int64} (ha : f a = .inr (1, [.int K, .int (nI s), .ref b])) (hb : f b = .inl (zg_c G 1, s, .inr (.inl num))) (ha1 : zg_B G ≤ a) (ha2 : a < nn) (hb1 : zg_B G ≤ b) (hb2 : b < nn) (hs : s ≤ 16)  : zc G l yX7_rowFault cX7_rowFault 1 (some .int) 0 [.ref a] (f, nn) 0 0 (fun o h' => o = some (.int 0) ∧ h' = (f, nn)) := by
  refine zc.of (by decide) (Nat.le_of_ble_eq_true rfl) ?_
  refine zv_aload_n dX7_rowFault_0 rfl ?_
  refine zv_ifnonnull (tgt := 6) dX7_rowFault_1 (by decide) ?_
  refine zv_aload_n dX7_rowFault_6 rfl ?_
  refine zv_instY (ci := 1) (fs := [.int K, .int (nI s), .ref b]) ha ha1 ha2 rfl zk_X7_151 (by decide +kernel) dX7_rowFault_7 ?_
  refine zv_if_eq (tgt := 17) dX7_rowFault_10 (by decide) (fun c => absurd c (by decide)) (fun _ => ?_)
  refine zv_iconstv (v := 0) dX7_rowFault_13 (by decide) ?_
  refine zv_goto (tgt := 18) dX7_rowFault_14 (by decide) ?_
  exact zv_ireturn dX7_rowFault_18 rfl ⟨rfl, rfl⟩
set_option maxRecDepth 20000 in
set_option maxHeartbeats 1000000 in
theorem cX_rowFT {G : zh_G} {l : Launch} {f : Nat → va_E} {nn : Nat} {a b s : Nat} {K : Int32} {thg : Nat → Option Nat} (ha : f a = .inr (4, [.int K, .int (nI s), .ref b])) (hb : f b = .inl (zg_c G 3, s, .inr (.inr (.inr (.inr thg))))) (ha1 : zg_B G ≤ a) (ha2 : a < nn) (hb1 : zg_B G ≤ b) (hb2 : b < nn) (hs : s ≤ 16)  : zc G l yX7_rowFault cX7_rowFault 1 (some .int) 0 [.ref a] (f, nn) 0 0 (fun o h' => o = some (.int 0) ∧ h' = (f, nn)) := by
  refine zc.of (by decide) (Nat.le_of_ble_eq_true rfl) ?_
  refine zv_aload_n dX7_rowFault_0 rfl ?_
  refine zv_ifnonnull (tgt := 6) dX7_rowFault_1 (by decide) ?_
  refine zv_aload_n dX7_rowFault_6 rfl ?_
  refine zv_instY (ci := 4) (fs := [.int K, .int (nI s), .ref b]) ha ha1 ha2 rfl zk_X7_151 (by decide +kernel) dX7_rowFault_7 ?_
  refine zv_if_eq (tgt := 17) dX7_rowFault_10 (by decide) (fun c => absurd c (by decide)) (fun _ => ?_)
  refine zv_iconstv (v := 0) dX7_rowFault_13 (by decide) ?_
  refine zv_goto (tgt := 18) dX7_rowFault_14 (by decide) ?_
  exact zv_ireturn dX7_rowFault_18 rfl ⟨rfl, rfl⟩
set_option maxRecDepth 20000 in
set_option maxHeartbeats 1000000 in
theorem cX_plc0 {G : zh_G} {l : Launch} {f : Nat → va_E} {nn : Nat}  : zc G l yX7_placesOf cX7_placesOf 2 (some .int) 0 [.null] (f, nn) 0 0 (fun o h' => o = some (.int 0) ∧ h' = (f, nn)) := by
  refine zc.of (by decide) (Nat.le_of_ble_eq_true rfl) ?_
  refine zv_aload_nN dX7_placesOf_0 rfl ?_
  refine zv_instN dX7_placesOf_1 ?_
  refine zv_if_eq (tgt := 19) dX7_placesOf_4 (by decide) (fun _ => ?_) (fun c => absurd rfl c)
  refine zv_iconstv (v := 0) dX7_placesOf_19 (by decide) ?_
  exact zv_ireturn dX7_placesOf_20 rfl ⟨rfl, rfl⟩
set_option maxRecDepth 20000 in
set_option maxHeartbeats 1000000 in
theorem cX_plcP {G : zh_G} {l : Launch} {f : Nat → va_E} {nn : Nat} {a : Nat} {p fn : Int32} (ha : f a = .inr (2, [.int p, .int fn])) (ha1 : zg_B G ≤ a) (ha2 : a < nn)  : zc G l yX7_placesOf cX7_placesOf 2 (some .int) 0 [.ref a] (f, nn) 0 0 (fun o h' => o = some (.int 0) ∧ h' = (f, nn)) := by
  refine zc.of (by decide) (Nat.le_of_ble_eq_true rfl) ?_
  refine zv_aload_n dX7_placesOf_0 rfl ?_
  refine zv_instNo (ci := 2) (fs := [.int p, .int fn]) ha ha1 ha2 rfl zk_X7_151 (by decide +kernel) dX7_placesOf_1 ?_
  refine zv_if_eq (tgt := 19) dX7_placesOf_4 (by decide) (fun _ => ?_) (fun c => absurd rfl c)
  refine zv_iconstv (v := 0) dX7_placesOf_19 (by decide) ?_
  exact zv_ireturn dX7_placesOf_20 rfl ⟨rfl, rfl⟩
set_option maxRecDepth 20000 in
set_option maxHeartbeats 1000000 in
theorem cX_plcN {G : zh_G} {l : Launch} {f : Nat → va_E} {nn : Nat} {a b s : Nat} {K : Int32} {num : Nat → Int64} (ha : f a = .inr (1, [.int K, .int (nI s), .ref b])) (hb : f b = .inl (zg_c G 1, s, .inr (.inl num))) (ha1 : zg_B G ≤ a) (ha2 : a < nn) (hb1 : zg_B G ≤ b) (hb2 : b < nn) (hs : s ≤ 16)  : zc G l yX7_placesOf cX7_placesOf 2 (some .int) 0 [.ref a] (f, nn) 0 0 (fun o h' => o = some (.int (nI s)) ∧ h' = (f, nn)) := by
  refine zc.of (by decide) (Nat.le_of_ble_eq_true rfl) ?_
  refine zv_aload_n dX7_placesOf_0 rfl ?_
  refine zv_instY (ci := 1) (fs := [.int K, .int (nI s), .ref b]) ha ha1 ha2 rfl zk_X7_151 (by decide +kernel) dX7_placesOf_1 ?_
  refine zv_if_eq (tgt := 19) dX7_placesOf_4 (by decide) (fun c => absurd c (by decide)) (fun _ => ?_)
  refine zv_aload_n dX7_placesOf_7 rfl ?_
  refine zv_castY (ci := 1) (fs := [.int K, .int (nI s), .ref b]) ha ha1 ha2 rfl zk_X7_151 (by decide +kernel) dX7_placesOf_8 ?_
  refine zv_astore_n dX7_placesOf_11 (by decide) ?_
  refine zv_aload_n dX7_placesOf_12 rfl ?_
  refine zv_get (ci := 1) (fs := [.int K, .int (nI s), .ref b]) zf_X7_161_1 ha ha1 ha2 rfl dX7_placesOf_13 ?_
  refine zv_goto (tgt := 20) dX7_placesOf_16 (by decide) ?_
  exact zv_ireturn dX7_placesOf_20 rfl ⟨rfl, rfl⟩
set_option maxRecDepth 20000 in
set_option maxHeartbeats 1000000 in
theorem cX_plcT {G : zh_G} {l : Launch} {f : Nat → va_E} {nn : Nat} {a b s : Nat} {K : Int32} {thg : Nat → Option Nat} (ha : f a = .inr (4, [.int K, .int (nI s), .ref b])) (hb : f b = .inl (zg_c G 3, s, .inr (.inr (.inr (.inr thg))))) (ha1 : zg_B G ≤ a) (ha2 : a < nn) (hb1 : zg_B G ≤ b) (hb2 : b < nn) (hs : s ≤ 16)  : zc G l yX7_placesOf cX7_placesOf 2 (some .int) 0 [.ref a] (f, nn) 0 0 (fun o h' => o = some (.int (nI s)) ∧ h' = (f, nn)) := by
  refine zc.of (by decide) (Nat.le_of_ble_eq_true rfl) ?_
  refine zv_aload_n dX7_placesOf_0 rfl ?_
  refine zv_instY (ci := 4) (fs := [.int K, .int (nI s), .ref b]) ha ha1 ha2 rfl zk_X7_151 (by decide +kernel) dX7_placesOf_1 ?_
  refine zv_if_eq (tgt := 19) dX7_placesOf_4 (by decide) (fun c => absurd c (by decide)) (fun _ => ?_)
  refine zv_aload_n dX7_placesOf_7 rfl ?_
  refine zv_castY (ci := 4) (fs := [.int K, .int (nI s), .ref b]) ha ha1 ha2 rfl zk_X7_151 (by decide +kernel) dX7_placesOf_8 ?_
  refine zv_astore_n dX7_placesOf_11 (by decide) ?_
  refine zv_aload_n dX7_placesOf_12 rfl ?_
  refine zv_get (ci := 4) (fs := [.int K, .int (nI s), .ref b]) zf_X7_161_4 ha ha1 ha2 rfl dX7_placesOf_13 ?_
  refine zv_goto (tgt := 20) dX7_placesOf_16 (by decide) ?_
  exact zv_ireturn dX7_placesOf_20 rfl ⟨rfl, rfl⟩
set_option maxRecDepth 20000 in
set_option maxHeartbeats 1000000 in
theorem cX_plF0 {G : zh_G} {l : Launch} {f : Nat → va_E} {nn : Nat} {i : Int32}  : zc G l yX7_placeFault cX7_placeFault 3 (some .int) 1 [.null, .int i] (f, nn) 0 0 (fun o h' => o = some (.int 1) ∧ h' = (f, nn)) := by
  refine zc.of (by decide) (Nat.le_of_ble_eq_true rfl) ?_
  refine zv_aload_nN dX7_placeFault_0 rfl ?_
  refine zv_callSq (mc := 0) (ms := 0) zm_X7_98 zkyX7_rowFault (cX_rowF0) rfl rfl (Nat.le_of_ble_eq_true rfl) (by decide) dX7_placeFault_1 ?_
  refine zv_istore_n dX7_placeFault_4 (by decide) ?_
  refine zv_iload_n dX7_placeFault_5 rfl ?_
  refine zv_if_eq (tgt := 11) dX7_placeFault_6 (by decide) (fun c => absurd c (by decide)) (fun _ => ?_)
  refine zv_iload_n dX7_placeFault_9 rfl ?_
  exact zv_ireturn dX7_placeFault_10 rfl ⟨rfl, rfl⟩
set_option maxRecDepth 20000 in
set_option maxHeartbeats 1000000 in
theorem cX_plFP {G : zh_G} {l : Launch} {f : Nat → va_E} {nn : Nat} {i : Int32} {a : Nat} {p fn : Int32} (ha : f a = .inr (2, [.int p, .int fn])) (ha1 : zg_B G ≤ a) (ha2 : a < nn)  : zc G l yX7_placeFault cX7_placeFault 3 (some .int) 1 [.ref a, .int i] (f, nn) 0 0 (fun o h' => o = some (.int 2) ∧ h' = (f, nn)) := by
  refine zc.of (by decide) (Nat.le_of_ble_eq_true rfl) ?_
  refine zv_aload_n dX7_placeFault_0 rfl ?_
  refine zv_callSq (mc := 0) (ms := 0) zm_X7_98 zkyX7_rowFault (cX_rowFP ha ha1 ha2) rfl rfl (Nat.le_of_ble_eq_true rfl) (by decide) dX7_placeFault_1 ?_
  refine zv_istore_n dX7_placeFault_4 (by decide) ?_
  refine zv_iload_n dX7_placeFault_5 rfl ?_
  refine zv_if_eq (tgt := 11) dX7_placeFault_6 (by decide) (fun c => absurd c (by decide)) (fun _ => ?_)
  refine zv_iload_n dX7_placeFault_9 rfl ?_
  exact zv_ireturn dX7_placeFault_10 rfl ⟨rfl, rfl⟩
set_option maxRecDepth 20000 in
set_option maxHeartbeats 1000000 in
theorem cX_plFNi {G : zh_G} {l : Launch} {f : Nat → va_E} {nn : Nat} {i : Int32} {a b s : Nat} {K : Int32} {num : Nat → Int64} (ha : f a = .inr (1, [.int K, .int (nI s), .ref b])) (hb : f b = .inl (zg_c G 1, s, .inr (.inl num))) (ha1 : zg_B G ≤ a) (ha2 : a < nn) (hb1 : zg_B G ≤ b) (hb2 : b < nn) (hs : s ≤ 16) (hco : co i (nI s) = false)  : zc G l yX7_placeFault cX7_placeFault 3 (some .int) 1 [.ref a, .int i] (f, nn) 0 0 (fun o h' => o = some (.int 0) ∧ h' = (f, nn)) := by
  refine zc.of (by decide) (Nat.le_of_ble_eq_true rfl) ?_
  refine zv_aload_n dX7_placeFault_0 rfl ?_
  refine zv_callSq (mc := 0) (ms := 0) zm_X7_98 zkyX7_rowFault (cX_rowFN ha hb ha1 ha2 hb1 hb2 hs) rfl rfl (Nat.le_of_ble_eq_true rfl) (by decide) dX7_placeFault_1 ?_
  refine zv_istore_n dX7_placeFault_4 (by decide) ?_
  refine zv_iload_n dX7_placeFault_5 rfl ?_
  refine zv_if_eq (tgt := 11) dX7_placeFault_6 (by decide) (fun _ => ?_) (fun c => absurd rfl c)
  refine zv_iload_n dX7_placeFault_11 rfl ?_
  refine zv_if_lt (tgt := 23) dX7_placeFault_12 (by decide) (fun c12 => ?_) (fun c12 => ?_)
  · exact absurd c12 (co_f hco).1
  · skip
    refine zv_iload_n dX7_placeFault_15 rfl ?_
    refine zv_aload_n dX7_placeFault_16 rfl ?_
    refine zv_callSq (mc := 0) (ms := 0) zm_X7_102 zkyX7_placesOf (cX_plcN ha hb ha1 ha2 hb1 hb2 hs) rfl rfl (Nat.le_of_ble_eq_true rfl) (by decide) dX7_placeFault_17 ?_
    refine zv_icmp_lt (tgt := 27) dX7_placeFault_20 (by decide) (fun c20 => ?_) (fun c20 => ?_)
    · skip
      refine zv_iconstv (v := 0) dX7_placeFault_27 (by decide) ?_
      exact zv_ireturn dX7_placeFault_28 rfl ⟨rfl, rfl⟩
    · exact absurd (co_f hco).2 c20
set_option maxRecDepth 20000 in
set_option maxHeartbeats 1000000 in
theorem cX_plFNo {G : zh_G} {l : Launch} {f : Nat → va_E} {nn : Nat} {i : Int32} {a b s : Nat} {K : Int32} {num : Nat → Int64} (ha : f a = .inr (1, [.int K, .int (nI s), .ref b])) (hb : f b = .inl (zg_c G 1, s, .inr (.inl num))) (ha1 : zg_B G ≤ a) (ha2 : a < nn) (hb1 : zg_B G ≤ b) (hb2 : b < nn) (hs : s ≤ 16) (hco : co i (nI s) = true)  : zc G l yX7_placeFault cX7_placeFault 3 (some .int) 1 [.ref a, .int i] (f, nn) 0 0 (fun o h' => o = some (.int 3) ∧ h' = (f, nn)) := by
  refine zc.of (by decide) (Nat.le_of_ble_eq_true rfl) ?_
  refine zv_aload_n dX7_placeFault_0 rfl ?_
  refine zv_callSq (mc := 0) (ms := 0) zm_X7_98 zkyX7_rowFault (cX_rowFN ha hb ha1 ha2 hb1 hb2 hs) rfl rfl (Nat.le_of_ble_eq_true rfl) (by decide) dX7_placeFault_1 ?_
  refine zv_istore_n dX7_placeFault_4 (by decide) ?_
  refine zv_iload_n dX7_placeFault_5 rfl ?_
  refine zv_if_eq (tgt := 11) dX7_placeFault_6 (by decide) (fun _ => ?_) (fun c => absurd rfl c)
  refine zv_iload_n dX7_placeFault_11 rfl ?_
  refine zv_if_lt (tgt := 23) dX7_placeFault_12 (by decide) (fun c12 => ?_) (fun c12 => ?_)
  · skip
    refine zv_iconstv (v := 3) dX7_placeFault_23 (by decide) ?_
    refine zv_goto (tgt := 28) dX7_placeFault_24 (by decide) ?_
    exact zv_ireturn dX7_placeFault_28 rfl ⟨rfl, rfl⟩
  · skip
    refine zv_iload_n dX7_placeFault_15 rfl ?_
    refine zv_aload_n dX7_placeFault_16 rfl ?_
    refine zv_callSq (mc := 0) (ms := 0) zm_X7_102 zkyX7_placesOf (cX_plcN ha hb ha1 ha2 hb1 hb2 hs) rfl rfl (Nat.le_of_ble_eq_true rfl) (by decide) dX7_placeFault_17 ?_
    refine zv_icmp_lt (tgt := 27) dX7_placeFault_20 (by decide) (fun c20 => ?_) (fun c20 => ?_)
    · exact absurd c20 ((co_t hco).resolve_left c12)
    · skip
      refine zv_iconstv (v := 3) dX7_placeFault_23 (by decide) ?_
      refine zv_goto (tgt := 28) dX7_placeFault_24 (by decide) ?_
      exact zv_ireturn dX7_placeFault_28 rfl ⟨rfl, rfl⟩
set_option maxRecDepth 20000 in
set_option maxHeartbeats 1000000 in
theorem cX_plFTi {G : zh_G} {l : Launch} {f : Nat → va_E} {nn : Nat} {i : Int32} {a b s : Nat} {K : Int32} {thg : Nat → Option Nat} (ha : f a = .inr (4, [.int K, .int (nI s), .ref b])) (hb : f b = .inl (zg_c G 3, s, .inr (.inr (.inr (.inr thg))))) (ha1 : zg_B G ≤ a) (ha2 : a < nn) (hb1 : zg_B G ≤ b) (hb2 : b < nn) (hs : s ≤ 16) (hco : co i (nI s) = false)  : zc G l yX7_placeFault cX7_placeFault 3 (some .int) 1 [.ref a, .int i] (f, nn) 0 0 (fun o h' => o = some (.int 0) ∧ h' = (f, nn)) := by
  refine zc.of (by decide) (Nat.le_of_ble_eq_true rfl) ?_
  refine zv_aload_n dX7_placeFault_0 rfl ?_
  refine zv_callSq (mc := 0) (ms := 0) zm_X7_98 zkyX7_rowFault (cX_rowFT ha hb ha1 ha2 hb1 hb2 hs) rfl rfl (Nat.le_of_ble_eq_true rfl) (by decide) dX7_placeFault_1 ?_
  refine zv_istore_n dX7_placeFault_4 (by decide) ?_
  refine zv_iload_n dX7_placeFault_5 rfl ?_
  refine zv_if_eq (tgt := 11) dX7_placeFault_6 (by decide) (fun _ => ?_) (fun c => absurd rfl c)
  refine zv_iload_n dX7_placeFault_11 rfl ?_
  refine zv_if_lt (tgt := 23) dX7_placeFault_12 (by decide) (fun c12 => ?_) (fun c12 => ?_)
  · exact absurd c12 (co_f hco).1
  · skip
    refine zv_iload_n dX7_placeFault_15 rfl ?_
    refine zv_aload_n dX7_placeFault_16 rfl ?_
    refine zv_callSq (mc := 0) (ms := 0) zm_X7_102 zkyX7_placesOf (cX_plcT ha hb ha1 ha2 hb1 hb2 hs) rfl rfl (Nat.le_of_ble_eq_true rfl) (by decide) dX7_placeFault_17 ?_
    refine zv_icmp_lt (tgt := 27) dX7_placeFault_20 (by decide) (fun c20 => ?_) (fun c20 => ?_)
    · skip
      refine zv_iconstv (v := 0) dX7_placeFault_27 (by decide) ?_
      exact zv_ireturn dX7_placeFault_28 rfl ⟨rfl, rfl⟩
    · exact absurd (co_f hco).2 c20
set_option maxRecDepth 20000 in
set_option maxHeartbeats 1000000 in
theorem cX_plFTo {G : zh_G} {l : Launch} {f : Nat → va_E} {nn : Nat} {i : Int32} {a b s : Nat} {K : Int32} {thg : Nat → Option Nat} (ha : f a = .inr (4, [.int K, .int (nI s), .ref b])) (hb : f b = .inl (zg_c G 3, s, .inr (.inr (.inr (.inr thg))))) (ha1 : zg_B G ≤ a) (ha2 : a < nn) (hb1 : zg_B G ≤ b) (hb2 : b < nn) (hs : s ≤ 16) (hco : co i (nI s) = true)  : zc G l yX7_placeFault cX7_placeFault 3 (some .int) 1 [.ref a, .int i] (f, nn) 0 0 (fun o h' => o = some (.int 3) ∧ h' = (f, nn)) := by
  refine zc.of (by decide) (Nat.le_of_ble_eq_true rfl) ?_
  refine zv_aload_n dX7_placeFault_0 rfl ?_
  refine zv_callSq (mc := 0) (ms := 0) zm_X7_98 zkyX7_rowFault (cX_rowFT ha hb ha1 ha2 hb1 hb2 hs) rfl rfl (Nat.le_of_ble_eq_true rfl) (by decide) dX7_placeFault_1 ?_
  refine zv_istore_n dX7_placeFault_4 (by decide) ?_
  refine zv_iload_n dX7_placeFault_5 rfl ?_
  refine zv_if_eq (tgt := 11) dX7_placeFault_6 (by decide) (fun _ => ?_) (fun c => absurd rfl c)
  refine zv_iload_n dX7_placeFault_11 rfl ?_
  refine zv_if_lt (tgt := 23) dX7_placeFault_12 (by decide) (fun c12 => ?_) (fun c12 => ?_)
  · skip
    refine zv_iconstv (v := 3) dX7_placeFault_23 (by decide) ?_
    refine zv_goto (tgt := 28) dX7_placeFault_24 (by decide) ?_
    exact zv_ireturn dX7_placeFault_28 rfl ⟨rfl, rfl⟩
  · skip
    refine zv_iload_n dX7_placeFault_15 rfl ?_
    refine zv_aload_n dX7_placeFault_16 rfl ?_
    refine zv_callSq (mc := 0) (ms := 0) zm_X7_102 zkyX7_placesOf (cX_plcT ha hb ha1 ha2 hb1 hb2 hs) rfl rfl (Nat.le_of_ble_eq_true rfl) (by decide) dX7_placeFault_17 ?_
    refine zv_icmp_lt (tgt := 27) dX7_placeFault_20 (by decide) (fun c20 => ?_) (fun c20 => ?_)
    · exact absurd c20 ((co_t hco).resolve_left c12)
    · skip
      refine zv_iconstv (v := 3) dX7_placeFault_23 (by decide) ?_
      refine zv_goto (tgt := 28) dX7_placeFault_24 (by decide) ?_
      exact zv_ireturn dX7_placeFault_28 rfl ⟨rfl, rfl⟩
set_option maxRecDepth 20000 in
set_option maxHeartbeats 1000000 in
theorem cX_get0 {G : zh_G} {l : Launch} {f : Nat → va_E} {nn : Nat} {i : Int32} {c : Nat} {k0 a0 t0 : Value} (hc : f c = .inr (0, [k0, a0, t0])) (hc1 : zg_B G ≤ c) (hc2 : c < nn)  : zc G l yX7_getPlace cX7_getPlace 6 (some .int) 2 [.null, .int i, .ref c] (f, nn) 0 0 (fun o h' => o = some (.int 1) ∧ h' = (f, nn)) := by
  refine zc.of (by decide) (Nat.le_of_ble_eq_true rfl) ?_
  refine zv_aload_nN dX7_getPlace_0 rfl ?_
  refine zv_iload_n dX7_getPlace_1 rfl ?_
  refine zv_callSq (mc := 0) (ms := 0) zm_X7_121 zkyX7_placeFault (cX_plF0) rfl rfl (Nat.le_of_ble_eq_true rfl) (by decide) dX7_getPlace_2 ?_
  refine zv_istore_n dX7_getPlace_5 (by decide) ?_
  refine zv_iload_n dX7_getPlace_6 rfl ?_
  refine zv_if_eq (tgt := 12) dX7_getPlace_7 (by decide) (fun c => absurd c (by decide)) (fun _ => ?_)
  refine zv_iload_n dX7_getPlace_10 rfl ?_
  exact zv_ireturn dX7_getPlace_11 rfl ⟨rfl, rfl⟩
set_option maxRecDepth 20000 in
set_option maxHeartbeats 1000000 in
theorem cX_getP {G : zh_G} {l : Launch} {f : Nat → va_E} {nn : Nat} {i : Int32} {c : Nat} {k0 a0 t0 : Value} (hc : f c = .inr (0, [k0, a0, t0])) (hc1 : zg_B G ≤ c) (hc2 : c < nn) {a : Nat} {p fn : Int32} (ha : f a = .inr (2, [.int p, .int fn])) (ha1 : zg_B G ≤ a) (ha2 : a < nn)  : zc G l yX7_getPlace cX7_getPlace 6 (some .int) 2 [.ref a, .int i, .ref c] (f, nn) 0 0 (fun o h' => o = some (.int 2) ∧ h' = (f, nn)) := by
  refine zc.of (by decide) (Nat.le_of_ble_eq_true rfl) ?_
  refine zv_aload_n dX7_getPlace_0 rfl ?_
  refine zv_iload_n dX7_getPlace_1 rfl ?_
  refine zv_callSq (mc := 0) (ms := 0) zm_X7_121 zkyX7_placeFault (cX_plFP ha ha1 ha2) rfl rfl (Nat.le_of_ble_eq_true rfl) (by decide) dX7_getPlace_2 ?_
  refine zv_istore_n dX7_getPlace_5 (by decide) ?_
  refine zv_iload_n dX7_getPlace_6 rfl ?_
  refine zv_if_eq (tgt := 12) dX7_getPlace_7 (by decide) (fun c => absurd c (by decide)) (fun _ => ?_)
  refine zv_iload_n dX7_getPlace_10 rfl ?_
  exact zv_ireturn dX7_getPlace_11 rfl ⟨rfl, rfl⟩
set_option maxRecDepth 20000 in
set_option maxHeartbeats 1000000 in
theorem cX_getNo {G : zh_G} {l : Launch} {f : Nat → va_E} {nn : Nat} {i : Int32} {c : Nat} {k0 a0 t0 : Value} (hc : f c = .inr (0, [k0, a0, t0])) (hc1 : zg_B G ≤ c) (hc2 : c < nn) {a b s : Nat} {K : Int32} {num : Nat → Int64} (ha : f a = .inr (1, [.int K, .int (nI s), .ref b])) (hb : f b = .inl (zg_c G 1, s, .inr (.inl num))) (ha1 : zg_B G ≤ a) (ha2 : a < nn) (hb1 : zg_B G ≤ b) (hb2 : b < nn) (hs : s ≤ 16) (hco : co i (nI s) = true)  : zc G l yX7_getPlace cX7_getPlace 6 (some .int) 2 [.ref a, .int i, .ref c] (f, nn) 0 0 (fun o h' => o = some (.int 3) ∧ h' = (f, nn)) := by
  refine zc.of (by decide) (Nat.le_of_ble_eq_true rfl) ?_
  refine zv_aload_n dX7_getPlace_0 rfl ?_
  refine zv_iload_n dX7_getPlace_1 rfl ?_
  refine zv_callSq (mc := 0) (ms := 0) zm_X7_121 zkyX7_placeFault (cX_plFNo ha hb ha1 ha2 hb1 hb2 hs hco) rfl rfl (Nat.le_of_ble_eq_true rfl) (by decide) dX7_getPlace_2 ?_
  refine zv_istore_n dX7_getPlace_5 (by decide) ?_
  refine zv_iload_n dX7_getPlace_6 rfl ?_
  refine zv_if_eq (tgt := 12) dX7_getPlace_7 (by decide) (fun c => absurd c (by decide)) (fun _ => ?_)
  refine zv_iload_n dX7_getPlace_10 rfl ?_
  exact zv_ireturn dX7_getPlace_11 rfl ⟨rfl, rfl⟩
set_option maxRecDepth 20000 in
set_option maxHeartbeats 1000000 in
theorem cX_getTo {G : zh_G} {l : Launch} {f : Nat → va_E} {nn : Nat} {i : Int32} {c : Nat} {k0 a0 t0 : Value} (hc : f c = .inr (0, [k0, a0, t0])) (hc1 : zg_B G ≤ c) (hc2 : c < nn) {a b s : Nat} {K : Int32} {thg : Nat → Option Nat} (ha : f a = .inr (4, [.int K, .int (nI s), .ref b])) (hb : f b = .inl (zg_c G 3, s, .inr (.inr (.inr (.inr thg))))) (ha1 : zg_B G ≤ a) (ha2 : a < nn) (hb1 : zg_B G ≤ b) (hb2 : b < nn) (hs : s ≤ 16) (hco : co i (nI s) = true)  : zc G l yX7_getPlace cX7_getPlace 6 (some .int) 2 [.ref a, .int i, .ref c] (f, nn) 0 0 (fun o h' => o = some (.int 3) ∧ h' = (f, nn)) := by
  refine zc.of (by decide) (Nat.le_of_ble_eq_true rfl) ?_
  refine zv_aload_n dX7_getPlace_0 rfl ?_
  refine zv_iload_n dX7_getPlace_1 rfl ?_
  refine zv_callSq (mc := 0) (ms := 0) zm_X7_121 zkyX7_placeFault (cX_plFTo ha hb ha1 ha2 hb1 hb2 hs hco) rfl rfl (Nat.le_of_ble_eq_true rfl) (by decide) dX7_getPlace_2 ?_
  refine zv_istore_n dX7_getPlace_5 (by decide) ?_
  refine zv_iload_n dX7_getPlace_6 rfl ?_
  refine zv_if_eq (tgt := 12) dX7_getPlace_7 (by decide) (fun c => absurd c (by decide)) (fun _ => ?_)
  refine zv_iload_n dX7_getPlace_10 rfl ?_
  exact zv_ireturn dX7_getPlace_11 rfl ⟨rfl, rfl⟩
set_option maxRecDepth 20000 in
set_option maxHeartbeats 1000000 in
theorem cX_getNi {G : zh_G} {l : Launch} {f : Nat → va_E} {nn : Nat} {i : Int32} {c : Nat} {k0 a0 t0 : Value} (hc : f c = .inr (0, [k0, a0, t0])) (hc1 : zg_B G ≤ c) (hc2 : c < nn) {a b s : Nat} {K : Int32} {num : Nat → Int64} (ha : f a = .inr (1, [.int K, .int (nI s), .ref b])) (hb : f b = .inl (zg_c G 1, s, .inr (.inl num))) (ha1 : zg_B G ≤ a) (ha2 : a < nn) (hb1 : zg_B G ≤ b) (hb2 : b < nn) (hs : s ≤ 16) (hco : co i (nI s) = false)  : zc G l yX7_getPlace cX7_getPlace 6 (some .int) 2 [.ref a, .int i, .ref c] (f, nn) 0 0 (fun o h' => o = some (.int 0) ∧ h' = (va_up f c (.inr (0, [.int K, .long (s_as K (num i.toNatClampNeg)), .null])), nn)) := by
  refine zc.of (by decide) (Nat.le_of_ble_eq_true rfl) ?_
  refine zv_aload_n dX7_getPlace_0 rfl ?_
  refine zv_iload_n dX7_getPlace_1 rfl ?_
  refine zv_callSq (mc := 0) (ms := 0) zm_X7_121 zkyX7_placeFault (cX_plFNi ha hb ha1 ha2 hb1 hb2 hs hco) rfl rfl (Nat.le_of_ble_eq_true rfl) (by decide) dX7_getPlace_2 ?_
  refine zv_istore_n dX7_getPlace_5 (by decide) ?_
  refine zv_iload_n dX7_getPlace_6 rfl ?_
  refine zv_if_eq (tgt := 12) dX7_getPlace_7 (by decide) (fun _ => ?_) (fun c => absurd rfl c)
  refine zv_aload_n dX7_getPlace_12 rfl ?_
  refine zv_instY (ci := 1) (fs := [.int K, .int (nI s), .ref b]) ha ha1 ha2 rfl zk_X7_43 (by decide +kernel) dX7_getPlace_13 ?_
  refine zv_if_eq (tgt := 44) dX7_getPlace_16 (by decide) (fun c => absurd c (by decide)) (fun _ => ?_)
  refine zv_aload_n dX7_getPlace_19 rfl ?_
  refine zv_castY (ci := 1) (fs := [.int K, .int (nI s), .ref b]) ha ha1 ha2 rfl zk_X7_43 (by decide +kernel) dX7_getPlace_20 ?_
  refine zv_astore dX7_getPlace_23 (by decide) ?_
  refine zv_aload_n dX7_getPlace_25 rfl ?_
  refine zv_aload dX7_getPlace_26 rfl ?_
  refine zv_get (ci := 1) (fs := [.int K, .int (nI s), .ref b]) zf_X7_164_1 ha ha1 ha2 rfl dX7_getPlace_28 ?_
  refine zv_aload dX7_getPlace_31 rfl ?_
  refine zv_get (ci := 1) (fs := [.int K, .int (nI s), .ref b]) zf_X7_165_1 ha ha1 ha2 rfl dX7_getPlace_33 ?_
  refine zv_iload_n dX7_getPlace_36 rfl ?_
  refine zv_lald hb hb1 hb2 (co_in hs hco) dX7_getPlace_37 ?_
  refine zv_callVq (ci := 0) (fs := [k0, a0, t0]) (mc := 0) (ms := 0) zm_X7_55 zkyX0_holdNumber hc hc1 hc2 rfl rfl (cX_holdN hc hc1 hc2) rfl rfl (Nat.le_of_ble_eq_true rfl) (by decide) dX7_getPlace_38 ?_
  refine zv_goto (tgt := 68) dX7_getPlace_41 (by decide) ?_
  refine zv_iconstv (v := 0) dX7_getPlace_68 (by decide) ?_
  exact zv_ireturn dX7_getPlace_69 rfl ⟨rfl, rfl⟩
set_option maxRecDepth 20000 in
set_option maxHeartbeats 1000000 in
theorem cX_getTi0 {G : zh_G} {l : Launch} {f : Nat → va_E} {nn : Nat} {i : Int32} {c : Nat} {k0 a0 t0 : Value} (hc : f c = .inr (0, [k0, a0, t0])) (hc1 : zg_B G ≤ c) (hc2 : c < nn) {a b s : Nat} {K : Int32} {thg : Nat → Option Nat} (ha : f a = .inr (4, [.int K, .int (nI s), .ref b])) (hb : f b = .inl (zg_c G 3, s, .inr (.inr (.inr (.inr thg))))) (ha1 : zg_B G ≤ a) (ha2 : a < nn) (hb1 : zg_B G ≤ b) (hb2 : b < nn) (hs : s ≤ 16) (hco : co i (nI s) = false) (h2 : thg i.toNatClampNeg = none)  : zc G l yX7_getPlace cX7_getPlace 6 (some .int) 2 [.ref a, .int i, .ref c] (f, nn) 0 0 (fun o h' => o = some (.int 0) ∧ h' = (va_up f c (.inr (0, [.int (-9), .long 0, .null])), nn)) := by
  refine zc.of (by decide) (Nat.le_of_ble_eq_true rfl) ?_
  refine zv_aload_n dX7_getPlace_0 rfl ?_
  refine zv_iload_n dX7_getPlace_1 rfl ?_
  refine zv_callSq (mc := 0) (ms := 0) zm_X7_121 zkyX7_placeFault (cX_plFTi ha hb ha1 ha2 hb1 hb2 hs hco) rfl rfl (Nat.le_of_ble_eq_true rfl) (by decide) dX7_getPlace_2 ?_
  refine zv_istore_n dX7_getPlace_5 (by decide) ?_
  refine zv_iload_n dX7_getPlace_6 rfl ?_
  refine zv_if_eq (tgt := 12) dX7_getPlace_7 (by decide) (fun _ => ?_) (fun c => absurd rfl c)
  refine zv_aload_n dX7_getPlace_12 rfl ?_
  refine zv_instNo (ci := 4) (fs := [.int K, .int (nI s), .ref b]) ha ha1 ha2 rfl zk_X7_43 (by decide +kernel) dX7_getPlace_13 ?_
  refine zv_if_eq (tgt := 44) dX7_getPlace_16 (by decide) (fun _ => ?_) (fun c => absurd rfl c)
  refine zv_aload_n dX7_getPlace_44 rfl ?_
  refine zv_instY (ci := 4) (fs := [.int K, .int (nI s), .ref b]) ha ha1 ha2 rfl zk_X7_48 (by decide +kernel) dX7_getPlace_45 ?_
  refine zv_if_eq (tgt := 68) dX7_getPlace_48 (by decide) (fun c => absurd c (by decide)) (fun _ => ?_)
  refine zv_aload_n dX7_getPlace_51 rfl ?_
  refine zv_castY (ci := 4) (fs := [.int K, .int (nI s), .ref b]) ha ha1 ha2 rfl zk_X7_48 (by decide +kernel) dX7_getPlace_52 ?_
  refine zv_astore dX7_getPlace_55 (by decide) ?_
  refine zv_aload_n dX7_getPlace_57 rfl ?_
  refine zv_aload dX7_getPlace_58 rfl ?_
  refine zv_get (ci := 4) (fs := [.int K, .int (nI s), .ref b]) zf_X7_169_4 ha ha1 ha2 rfl dX7_getPlace_60 ?_
  refine zv_iload_n dX7_getPlace_63 rfl ?_
  refine zv_aald3 hb hb1 hb2 (co_in hs hco) dX7_getPlace_64 ?_
  rw [h2]
  refine zv_callVq (ci := 0) (fs := [k0, a0, t0]) (mc := 0) (ms := 0) zm_X7_68 zkyX0_holdThing hc hc1 hc2 rfl rfl (cX_holdT0 hc hc1 hc2) rfl rfl (Nat.le_of_ble_eq_true rfl) (by decide) dX7_getPlace_65 ?_
  refine zv_iconstv (v := 0) dX7_getPlace_68 (by decide) ?_
  exact zv_ireturn dX7_getPlace_69 rfl ⟨rfl, rfl⟩
set_option maxRecDepth 20000 in
set_option maxHeartbeats 1000000 in
theorem cX_getTiP {G : zh_G} {l : Launch} {f : Nat → va_E} {nn : Nat} {i : Int32} {c : Nat} {k0 a0 t0 : Value} (hc : f c = .inr (0, [k0, a0, t0])) (hc1 : zg_B G ≤ c) (hc2 : c < nn) {a b s : Nat} {K : Int32} {thg : Nat → Option Nat} (ha : f a = .inr (4, [.int K, .int (nI s), .ref b])) (hb : f b = .inl (zg_c G 3, s, .inr (.inr (.inr (.inr thg))))) (ha1 : zg_B G ≤ a) (ha2 : a < nn) (hb1 : zg_B G ≤ b) (hb2 : b < nn) (hs : s ≤ 16) (hco : co i (nI s) = false) {a2 : Nat} {p2 fn2 : Int32} (h2 : thg i.toNatClampNeg = some a2) (hx : f a2 = .inr (2, [.int p2, .int fn2])) (hx1 : zg_B G ≤ a2) (hx2 : a2 < nn) (hxc : ¬ a2 = c)  : zc G l yX7_getPlace cX7_getPlace 6 (some .int) 2 [.ref a, .int i, .ref c] (f, nn) 0 0 (fun o h' => o = some (.int 0) ∧ h' = (va_up f c (.inr (0, [.int (if fn2 = 0 then 8 else 9), .long p2.toInt64, .ref a2])), nn)) := by
  refine zc.of (by decide) (Nat.le_of_ble_eq_true rfl) ?_
  refine zv_aload_n dX7_getPlace_0 rfl ?_
  refine zv_iload_n dX7_getPlace_1 rfl ?_
  refine zv_callSq (mc := 0) (ms := 0) zm_X7_121 zkyX7_placeFault (cX_plFTi ha hb ha1 ha2 hb1 hb2 hs hco) rfl rfl (Nat.le_of_ble_eq_true rfl) (by decide) dX7_getPlace_2 ?_
  refine zv_istore_n dX7_getPlace_5 (by decide) ?_
  refine zv_iload_n dX7_getPlace_6 rfl ?_
  refine zv_if_eq (tgt := 12) dX7_getPlace_7 (by decide) (fun _ => ?_) (fun c => absurd rfl c)
  refine zv_aload_n dX7_getPlace_12 rfl ?_
  refine zv_instNo (ci := 4) (fs := [.int K, .int (nI s), .ref b]) ha ha1 ha2 rfl zk_X7_43 (by decide +kernel) dX7_getPlace_13 ?_
  refine zv_if_eq (tgt := 44) dX7_getPlace_16 (by decide) (fun _ => ?_) (fun c => absurd rfl c)
  refine zv_aload_n dX7_getPlace_44 rfl ?_
  refine zv_instY (ci := 4) (fs := [.int K, .int (nI s), .ref b]) ha ha1 ha2 rfl zk_X7_48 (by decide +kernel) dX7_getPlace_45 ?_
  refine zv_if_eq (tgt := 68) dX7_getPlace_48 (by decide) (fun c => absurd c (by decide)) (fun _ => ?_)
  refine zv_aload_n dX7_getPlace_51 rfl ?_
  refine zv_castY (ci := 4) (fs := [.int K, .int (nI s), .ref b]) ha ha1 ha2 rfl zk_X7_48 (by decide +kernel) dX7_getPlace_52 ?_
  refine zv_astore dX7_getPlace_55 (by decide) ?_
  refine zv_aload_n dX7_getPlace_57 rfl ?_
  refine zv_aload dX7_getPlace_58 rfl ?_
  refine zv_get (ci := 4) (fs := [.int K, .int (nI s), .ref b]) zf_X7_169_4 ha ha1 ha2 rfl dX7_getPlace_60 ?_
  refine zv_iload_n dX7_getPlace_63 rfl ?_
  refine zv_aald3 hb hb1 hb2 (co_in hs hco) dX7_getPlace_64 ?_
  rw [h2]
  refine zv_callVq (ci := 0) (fs := [k0, a0, t0]) (mc := 0) (ms := 0) zm_X7_68 zkyX0_holdThing hc hc1 hc2 rfl rfl (cX_holdTP hc hc1 hc2 hx hx1 hx2 hxc) rfl rfl (Nat.le_of_ble_eq_true rfl) (by decide) dX7_getPlace_65 ?_
  refine zv_iconstv (v := 0) dX7_getPlace_68 (by decide) ?_
  exact zv_ireturn dX7_getPlace_69 rfl ⟨rfl, rfl⟩
set_option maxRecDepth 20000 in
set_option maxHeartbeats 1000000 in
theorem cX_getTiN {G : zh_G} {l : Launch} {f : Nat → va_E} {nn : Nat} {i : Int32} {c : Nat} {k0 a0 t0 : Value} (hc : f c = .inr (0, [k0, a0, t0])) (hc1 : zg_B G ≤ c) (hc2 : c < nn) {a b s : Nat} {K : Int32} {thg : Nat → Option Nat} (ha : f a = .inr (4, [.int K, .int (nI s), .ref b])) (hb : f b = .inl (zg_c G 3, s, .inr (.inr (.inr (.inr thg))))) (ha1 : zg_B G ≤ a) (ha2 : a < nn) (hb1 : zg_B G ≤ b) (hb2 : b < nn) (hs : s ≤ 16) (hco : co i (nI s) = false) {a2 b2 : Nat} {K2 S2 : Int32} (h2 : thg i.toNatClampNeg = some a2) (hx : f a2 = .inr (1, [.int K2, .int S2, .ref b2])) (hx1 : zg_B G ≤ a2) (hx2 : a2 < nn) (hxc : ¬ a2 = c)  : zc G l yX7_getPlace cX7_getPlace 6 (some .int) 2 [.ref a, .int i, .ref c] (f, nn) 0 0 (fun o h' => o = some (.int 0) ∧ h' = (va_up f c (.inr (0, [.int 10, .long S2.toInt64, .ref a2])), nn)) := by
  refine zc.of (by decide) (Nat.le_of_ble_eq_true rfl) ?_
  refine zv_aload_n dX7_getPlace_0 rfl ?_
  refine zv_iload_n dX7_getPlace_1 rfl ?_
  refine zv_callSq (mc := 0) (ms := 0) zm_X7_121 zkyX7_placeFault (cX_plFTi ha hb ha1 ha2 hb1 hb2 hs hco) rfl rfl (Nat.le_of_ble_eq_true rfl) (by decide) dX7_getPlace_2 ?_
  refine zv_istore_n dX7_getPlace_5 (by decide) ?_
  refine zv_iload_n dX7_getPlace_6 rfl ?_
  refine zv_if_eq (tgt := 12) dX7_getPlace_7 (by decide) (fun _ => ?_) (fun c => absurd rfl c)
  refine zv_aload_n dX7_getPlace_12 rfl ?_
  refine zv_instNo (ci := 4) (fs := [.int K, .int (nI s), .ref b]) ha ha1 ha2 rfl zk_X7_43 (by decide +kernel) dX7_getPlace_13 ?_
  refine zv_if_eq (tgt := 44) dX7_getPlace_16 (by decide) (fun _ => ?_) (fun c => absurd rfl c)
  refine zv_aload_n dX7_getPlace_44 rfl ?_
  refine zv_instY (ci := 4) (fs := [.int K, .int (nI s), .ref b]) ha ha1 ha2 rfl zk_X7_48 (by decide +kernel) dX7_getPlace_45 ?_
  refine zv_if_eq (tgt := 68) dX7_getPlace_48 (by decide) (fun c => absurd c (by decide)) (fun _ => ?_)
  refine zv_aload_n dX7_getPlace_51 rfl ?_
  refine zv_castY (ci := 4) (fs := [.int K, .int (nI s), .ref b]) ha ha1 ha2 rfl zk_X7_48 (by decide +kernel) dX7_getPlace_52 ?_
  refine zv_astore dX7_getPlace_55 (by decide) ?_
  refine zv_aload_n dX7_getPlace_57 rfl ?_
  refine zv_aload dX7_getPlace_58 rfl ?_
  refine zv_get (ci := 4) (fs := [.int K, .int (nI s), .ref b]) zf_X7_169_4 ha ha1 ha2 rfl dX7_getPlace_60 ?_
  refine zv_iload_n dX7_getPlace_63 rfl ?_
  refine zv_aald3 hb hb1 hb2 (co_in hs hco) dX7_getPlace_64 ?_
  rw [h2]
  refine zv_callVq (ci := 0) (fs := [k0, a0, t0]) (mc := 0) (ms := 0) zm_X7_68 zkyX0_holdThing hc hc1 hc2 rfl rfl (cX_holdTR hc hc1 hc2 hx hx1 hx2 hxc) rfl rfl (Nat.le_of_ble_eq_true rfl) (by decide) dX7_getPlace_65 ?_
  refine zv_iconstv (v := 0) dX7_getPlace_68 (by decide) ?_
  exact zv_ireturn dX7_getPlace_69 rfl ⟨rfl, rfl⟩
set_option maxRecDepth 20000 in
set_option maxHeartbeats 1000000 in
theorem cX_rd0 {G : zh_G} {l : Launch} {f : Nat → va_E} {nn : Nat} {i as : Int32} {c : Nat} {k0 a0 t0 : Value} (hc : f c = .inr (0, [k0, a0, t0])) (hc1 : zg_B G ≤ c) (hc2 : c < nn)  : zc G l yX7_readPlace cX7_readPlace 5 (some .int) 2 [.null, .int i, .int as, .ref c] (f, nn) 0 0 (fun o h' => o = some (.int 1) ∧ h' = (f, nn)) := by
  refine zc.of (by decide) (Nat.le_of_ble_eq_true rfl) ?_
  refine zv_aload_nN dX7_readPlace_0 rfl ?_
  refine zv_ifnonnullN dX7_readPlace_1 ?_
  refine zv_iconstv (v := 1) dX7_readPlace_4 (by decide) ?_
  exact zv_ireturn dX7_readPlace_5 rfl ⟨rfl, rfl⟩
set_option maxRecDepth 20000 in
set_option maxHeartbeats 1000000 in
theorem cX_wr0 {G : zh_G} {l : Launch} {f : Nat → va_E} {nn : Nat} {i as : Int32} {v : Int64}  : zc G l yX7_writePlace cX7_writePlace 6 (some .int) 1 [.null, .int i, .int as, .long v] (f, nn) 0 0 (fun o h' => o = some (.int 1) ∧ h' = (f, nn)) := by
  refine zc.of (by decide) (Nat.le_of_ble_eq_true rfl) ?_
  refine zv_aload_nN dX7_writePlace_0 rfl ?_
  refine zv_ifnonnullN dX7_writePlace_1 ?_
  refine zv_iconstv (v := 1) dX7_writePlace_4 (by decide) ?_
  exact zv_ireturn dX7_writePlace_5 rfl ⟨rfl, rfl⟩
set_option maxRecDepth 20000 in
set_option maxHeartbeats 1000000 in
theorem cX_rdP {G : zh_G} {l : Launch} {f : Nat → va_E} {nn : Nat} {i as : Int32} {c : Nat} {k0 a0 t0 : Value} (hc : f c = .inr (0, [k0, a0, t0])) (hc1 : zg_B G ≤ c) (hc2 : c < nn) {a : Nat} {p fn : Int32} (ha : f a = .inr (2, [.int p, .int fn])) (ha1 : zg_B G ≤ a) (ha2 : a < nn)  : zc G l yX7_readPlace cX7_readPlace 5 (some .int) 2 [.ref a, .int i, .int as, .ref c] (f, nn) 0 0 (fun o h' => o = some (.int 2) ∧ h' = (f, nn)) := by
  refine zc.of (by decide) (Nat.le_of_ble_eq_true rfl) ?_
  refine zv_aload_n dX7_readPlace_0 rfl ?_
  refine zv_ifnonnull (tgt := 6) dX7_readPlace_1 (by decide) ?_
  refine zv_aload_n dX7_readPlace_6 rfl ?_
  refine zv_instNo (ci := 2) (fs := [.int p, .int fn]) ha ha1 ha2 rfl zk_X7_43 (by decide +kernel) dX7_readPlace_7 ?_
  refine zv_if_eq (tgt := 62) dX7_readPlace_10 (by decide) (fun _ => ?_) (fun c => absurd rfl c)
  refine zv_iconstv (v := 2) dX7_readPlace_62 (by decide) ?_
  exact zv_ireturn dX7_readPlace_63 rfl ⟨rfl, rfl⟩
set_option maxRecDepth 20000 in
set_option maxHeartbeats 1000000 in
theorem cX_wrP {G : zh_G} {l : Launch} {f : Nat → va_E} {nn : Nat} {i as : Int32} {v : Int64} {a : Nat} {p fn : Int32} (ha : f a = .inr (2, [.int p, .int fn])) (ha1 : zg_B G ≤ a) (ha2 : a < nn)  : zc G l yX7_writePlace cX7_writePlace 6 (some .int) 1 [.ref a, .int i, .int as, .long v] (f, nn) 0 0 (fun o h' => o = some (.int 2) ∧ h' = (f, nn)) := by
  refine zc.of (by decide) (Nat.le_of_ble_eq_true rfl) ?_
  refine zv_aload_n dX7_writePlace_0 rfl ?_
  refine zv_ifnonnull (tgt := 6) dX7_writePlace_1 (by decide) ?_
  refine zv_aload_n dX7_writePlace_6 rfl ?_
  refine zv_instNo (ci := 2) (fs := [.int p, .int fn]) ha ha1 ha2 rfl zk_X7_43 (by decide +kernel) dX7_writePlace_7 ?_
  refine zv_if_eq (tgt := 70) dX7_writePlace_10 (by decide) (fun _ => ?_) (fun c => absurd rfl c)
  refine zv_iconstv (v := 2) dX7_writePlace_70 (by decide) ?_
  exact zv_ireturn dX7_writePlace_71 rfl ⟨rfl, rfl⟩
set_option maxRecDepth 20000 in
set_option maxHeartbeats 1000000 in
theorem cX_rdT {G : zh_G} {l : Launch} {f : Nat → va_E} {nn : Nat} {i as : Int32} {c : Nat} {k0 a0 t0 : Value} (hc : f c = .inr (0, [k0, a0, t0])) (hc1 : zg_B G ≤ c) (hc2 : c < nn) {a b s : Nat} {K : Int32} {thg : Nat → Option Nat} (ha : f a = .inr (4, [.int K, .int (nI s), .ref b])) (hb : f b = .inl (zg_c G 3, s, .inr (.inr (.inr (.inr thg))))) (ha1 : zg_B G ≤ a) (ha2 : a < nn) (hb1 : zg_B G ≤ b) (hb2 : b < nn) (hs : s ≤ 16)  : zc G l yX7_readPlace cX7_readPlace 5 (some .int) 2 [.ref a, .int i, .int as, .ref c] (f, nn) 0 0 (fun o h' => o = some (.int 2) ∧ h' = (f, nn)) := by
  refine zc.of (by decide) (Nat.le_of_ble_eq_true rfl) ?_
  refine zv_aload_n dX7_readPlace_0 rfl ?_
  refine zv_ifnonnull (tgt := 6) dX7_readPlace_1 (by decide) ?_
  refine zv_aload_n dX7_readPlace_6 rfl ?_
  refine zv_instNo (ci := 4) (fs := [.int K, .int (nI s), .ref b]) ha ha1 ha2 rfl zk_X7_43 (by decide +kernel) dX7_readPlace_7 ?_
  refine zv_if_eq (tgt := 62) dX7_readPlace_10 (by decide) (fun _ => ?_) (fun c => absurd rfl c)
  refine zv_iconstv (v := 2) dX7_readPlace_62 (by decide) ?_
  exact zv_ireturn dX7_readPlace_63 rfl ⟨rfl, rfl⟩
set_option maxRecDepth 20000 in
set_option maxHeartbeats 1000000 in
theorem cX_wrT {G : zh_G} {l : Launch} {f : Nat → va_E} {nn : Nat} {i as : Int32} {v : Int64} {a b s : Nat} {K : Int32} {thg : Nat → Option Nat} (ha : f a = .inr (4, [.int K, .int (nI s), .ref b])) (hb : f b = .inl (zg_c G 3, s, .inr (.inr (.inr (.inr thg))))) (ha1 : zg_B G ≤ a) (ha2 : a < nn) (hb1 : zg_B G ≤ b) (hb2 : b < nn) (hs : s ≤ 16)  : zc G l yX7_writePlace cX7_writePlace 6 (some .int) 1 [.ref a, .int i, .int as, .long v] (f, nn) 0 0 (fun o h' => o = some (.int 2) ∧ h' = (f, nn)) := by
  refine zc.of (by decide) (Nat.le_of_ble_eq_true rfl) ?_
  refine zv_aload_n dX7_writePlace_0 rfl ?_
  refine zv_ifnonnull (tgt := 6) dX7_writePlace_1 (by decide) ?_
  refine zv_aload_n dX7_writePlace_6 rfl ?_
  refine zv_instNo (ci := 4) (fs := [.int K, .int (nI s), .ref b]) ha ha1 ha2 rfl zk_X7_43 (by decide +kernel) dX7_writePlace_7 ?_
  refine zv_if_eq (tgt := 70) dX7_writePlace_10 (by decide) (fun _ => ?_) (fun c => absurd rfl c)
  refine zv_iconstv (v := 2) dX7_writePlace_70 (by decide) ?_
  exact zv_ireturn dX7_writePlace_71 rfl ⟨rfl, rfl⟩
set_option maxRecDepth 20000 in
set_option maxHeartbeats 1000000 in
theorem cX_rdNo {G : zh_G} {l : Launch} {f : Nat → va_E} {nn : Nat} {i as : Int32} {c : Nat} {k0 a0 t0 : Value} (hc : f c = .inr (0, [k0, a0, t0])) (hc1 : zg_B G ≤ c) (hc2 : c < nn) {a b s : Nat} {K : Int32} {num : Nat → Int64} (ha : f a = .inr (1, [.int K, .int (nI s), .ref b])) (hb : f b = .inl (zg_c G 1, s, .inr (.inl num))) (ha1 : zg_B G ≤ a) (ha2 : a < nn) (hb1 : zg_B G ≤ b) (hb2 : b < nn) (hs : s ≤ 16) (hco : co i (nI s) = true)  : zc G l yX7_readPlace cX7_readPlace 5 (some .int) 2 [.ref a, .int i, .int as, .ref c] (f, nn) 0 0 (fun o h' => o = some (.int 3) ∧ h' = (f, nn)) := by
  refine zc.of (by decide) (Nat.le_of_ble_eq_true rfl) ?_
  refine zv_aload_n dX7_readPlace_0 rfl ?_
  refine zv_ifnonnull (tgt := 6) dX7_readPlace_1 (by decide) ?_
  refine zv_aload_n dX7_readPlace_6 rfl ?_
  refine zv_instY (ci := 1) (fs := [.int K, .int (nI s), .ref b]) ha ha1 ha2 rfl zk_X7_43 (by decide +kernel) dX7_readPlace_7 ?_
  refine zv_if_eq (tgt := 62) dX7_readPlace_10 (by decide) (fun c => absurd c (by decide)) (fun _ => ?_)
  refine zv_aload_n dX7_readPlace_13 rfl ?_
  refine zv_castY (ci := 1) (fs := [.int K, .int (nI s), .ref b]) ha ha1 ha2 rfl zk_X7_43 (by decide +kernel) dX7_readPlace_14 ?_
  refine zv_astore dX7_readPlace_17 (by decide) ?_
  refine zv_iload_n dX7_readPlace_19 rfl ?_
  refine zv_if_lt (tgt := 32) dX7_readPlace_20 (by decide) (fun c20 => ?_) (fun c20 => ?_)
  · skip
    refine zv_iconstv (v := 3) dX7_readPlace_32 (by decide) ?_
    exact zv_ireturn dX7_readPlace_33 rfl ⟨rfl, rfl⟩
  · skip
    refine zv_iload_n dX7_readPlace_23 rfl ?_
    refine zv_aload dX7_readPlace_24 rfl ?_
    refine zv_get (ci := 1) (fs := [.int K, .int (nI s), .ref b]) zf_X7_186_1 ha ha1 ha2 rfl dX7_readPlace_26 ?_
    refine zv_icmp_lt (tgt := 34) dX7_readPlace_29 (by decide) (fun c29 => ?_) (fun c29 => ?_)
    · exact absurd c29 ((co_t hco).resolve_left c20)
    · skip
      refine zv_iconstv (v := 3) dX7_readPlace_32 (by decide) ?_
      exact zv_ireturn dX7_readPlace_33 rfl ⟨rfl, rfl⟩
set_option maxRecDepth 20000 in
set_option maxHeartbeats 1000000 in
theorem cX_rdNb {G : zh_G} {l : Launch} {f : Nat → va_E} {nn : Nat} {i as : Int32} {c : Nat} {k0 a0 t0 : Value} (hc : f c = .inr (0, [k0, a0, t0])) (hc1 : zg_B G ≤ c) (hc2 : c < nn) {a b s : Nat} {K : Int32} {num : Nat → Int64} (ha : f a = .inr (1, [.int K, .int (nI s), .ref b])) (hb : f b = .inl (zg_c G 1, s, .inr (.inl num))) (ha1 : zg_B G ≤ a) (ha2 : a < nn) (hb1 : zg_B G ≤ b) (hb2 : b < nn) (hs : s ≤ 16) (hco : co i (nI s) = false) (hg : gi K as = false)  : zc G l yX7_readPlace cX7_readPlace 5 (some .int) 2 [.ref a, .int i, .int as, .ref c] (f, nn) 0 0 (fun o h' => o = some (.int 2) ∧ h' = (f, nn)) := by
  refine zc.of (by decide) (Nat.le_of_ble_eq_true rfl) ?_
  refine zv_aload_n dX7_readPlace_0 rfl ?_
  refine zv_ifnonnull (tgt := 6) dX7_readPlace_1 (by decide) ?_
  refine zv_aload_n dX7_readPlace_6 rfl ?_
  refine zv_instY (ci := 1) (fs := [.int K, .int (nI s), .ref b]) ha ha1 ha2 rfl zk_X7_43 (by decide +kernel) dX7_readPlace_7 ?_
  refine zv_if_eq (tgt := 62) dX7_readPlace_10 (by decide) (fun c => absurd c (by decide)) (fun _ => ?_)
  refine zv_aload_n dX7_readPlace_13 rfl ?_
  refine zv_castY (ci := 1) (fs := [.int K, .int (nI s), .ref b]) ha ha1 ha2 rfl zk_X7_43 (by decide +kernel) dX7_readPlace_14 ?_
  refine zv_astore dX7_readPlace_17 (by decide) ?_
  refine zv_iload_n dX7_readPlace_19 rfl ?_
  refine zv_if_lt (tgt := 32) dX7_readPlace_20 (by decide) (fun c20 => ?_) (fun c20 => ?_)
  · exact absurd c20 (co_f hco).1
  · skip
    refine zv_iload_n dX7_readPlace_23 rfl ?_
    refine zv_aload dX7_readPlace_24 rfl ?_
    refine zv_get (ci := 1) (fs := [.int K, .int (nI s), .ref b]) zf_X7_186_1 ha ha1 ha2 rfl dX7_readPlace_26 ?_
    refine zv_icmp_lt (tgt := 34) dX7_readPlace_29 (by decide) (fun c29 => ?_) (fun c29 => ?_)
    · skip
      refine zv_aload dX7_readPlace_34 rfl ?_
      refine zv_get (ci := 1) (fs := [.int K, .int (nI s), .ref b]) zf_X7_164_1 ha ha1 ha2 rfl dX7_readPlace_36 ?_
      refine zv_iload_n dX7_readPlace_39 rfl ?_
      refine zv_callSq (mc := 0) (ms := 0) zm_X7_182 zkyX7_goesInto cX_goes rfl rfl (Nat.le_of_ble_eq_true rfl) (by decide) dX7_readPlace_40 ?_
      refine zv_if_ne (tgt := 48) dX7_readPlace_43 (by decide) (fun c43 => ?_) (fun c43 => ?_)
      · exact absurd (zb_0.mpr hg) (by assumption)
      · skip
        refine zv_iconstv (v := 2) dX7_readPlace_46 (by decide) ?_
        exact zv_ireturn dX7_readPlace_47 rfl ⟨rfl, rfl⟩
    · exact absurd (co_f hco).2 c29
set_option maxRecDepth 20000 in
set_option maxHeartbeats 1000000 in
theorem cX_rdNy {G : zh_G} {l : Launch} {f : Nat → va_E} {nn : Nat} {i as : Int32} {c : Nat} {k0 a0 t0 : Value} (hc : f c = .inr (0, [k0, a0, t0])) (hc1 : zg_B G ≤ c) (hc2 : c < nn) {a b s : Nat} {K : Int32} {num : Nat → Int64} (ha : f a = .inr (1, [.int K, .int (nI s), .ref b])) (hb : f b = .inl (zg_c G 1, s, .inr (.inl num))) (ha1 : zg_B G ≤ a) (ha2 : a < nn) (hb1 : zg_B G ≤ b) (hb2 : b < nn) (hs : s ≤ 16) (hco : co i (nI s) = false) (hg : gi K as = true)  : zc G l yX7_readPlace cX7_readPlace 5 (some .int) 2 [.ref a, .int i, .int as, .ref c] (f, nn) 0 0 (fun o h' => o = some (.int 0) ∧ h' = (va_up f c (.inr (0, [.int as, .long (s_as as (num i.toNatClampNeg)), .null])), nn)) := by
  refine zc.of (by decide) (Nat.le_of_ble_eq_true rfl) ?_
  refine zv_aload_n dX7_readPlace_0 rfl ?_
  refine zv_ifnonnull (tgt := 6) dX7_readPlace_1 (by decide) ?_
  refine zv_aload_n dX7_readPlace_6 rfl ?_
  refine zv_instY (ci := 1) (fs := [.int K, .int (nI s), .ref b]) ha ha1 ha2 rfl zk_X7_43 (by decide +kernel) dX7_readPlace_7 ?_
  refine zv_if_eq (tgt := 62) dX7_readPlace_10 (by decide) (fun c => absurd c (by decide)) (fun _ => ?_)
  refine zv_aload_n dX7_readPlace_13 rfl ?_
  refine zv_castY (ci := 1) (fs := [.int K, .int (nI s), .ref b]) ha ha1 ha2 rfl zk_X7_43 (by decide +kernel) dX7_readPlace_14 ?_
  refine zv_astore dX7_readPlace_17 (by decide) ?_
  refine zv_iload_n dX7_readPlace_19 rfl ?_
  refine zv_if_lt (tgt := 32) dX7_readPlace_20 (by decide) (fun c20 => ?_) (fun c20 => ?_)
  · exact absurd c20 (co_f hco).1
  · skip
    refine zv_iload_n dX7_readPlace_23 rfl ?_
    refine zv_aload dX7_readPlace_24 rfl ?_
    refine zv_get (ci := 1) (fs := [.int K, .int (nI s), .ref b]) zf_X7_186_1 ha ha1 ha2 rfl dX7_readPlace_26 ?_
    refine zv_icmp_lt (tgt := 34) dX7_readPlace_29 (by decide) (fun c29 => ?_) (fun c29 => ?_)
    · skip
      refine zv_aload dX7_readPlace_34 rfl ?_
      refine zv_get (ci := 1) (fs := [.int K, .int (nI s), .ref b]) zf_X7_164_1 ha ha1 ha2 rfl dX7_readPlace_36 ?_
      refine zv_iload_n dX7_readPlace_39 rfl ?_
      refine zv_callSq (mc := 0) (ms := 0) zm_X7_182 zkyX7_goesInto cX_goes rfl rfl (Nat.le_of_ble_eq_true rfl) (by decide) dX7_readPlace_40 ?_
      refine zv_if_ne (tgt := 48) dX7_readPlace_43 (by decide) (fun c43 => ?_) (fun c43 => ?_)
      · skip
        refine zv_aload_n dX7_readPlace_48 rfl ?_
        refine zv_iload_n dX7_readPlace_49 rfl ?_
        refine zv_aload dX7_readPlace_50 rfl ?_
        refine zv_get (ci := 1) (fs := [.int K, .int (nI s), .ref b]) zf_X7_165_1 ha ha1 ha2 rfl dX7_readPlace_52 ?_
        refine zv_iload_n dX7_readPlace_55 rfl ?_
        refine zv_lald hb hb1 hb2 (co_in hs hco) dX7_readPlace_56 ?_
        refine zv_callVq (ci := 0) (fs := [k0, a0, t0]) (mc := 0) (ms := 0) zm_X7_55 zkyX0_holdNumber hc hc1 hc2 rfl rfl (cX_holdN hc hc1 hc2) rfl rfl (Nat.le_of_ble_eq_true rfl) (by decide) dX7_readPlace_57 ?_
        refine zv_iconstv (v := 0) dX7_readPlace_60 (by decide) ?_
        exact zv_ireturn dX7_readPlace_61 rfl ⟨rfl, rfl⟩
      · exact absurd (by assumption) (zb_n.mpr hg)
    · exact absurd (co_f hco).2 c29
set_option maxRecDepth 20000 in
set_option maxHeartbeats 1000000 in
theorem cX_wrNo {G : zh_G} {l : Launch} {f : Nat → va_E} {nn : Nat} {i as : Int32} {v : Int64} {a b s : Nat} {K : Int32} {num : Nat → Int64} (ha : f a = .inr (1, [.int K, .int (nI s), .ref b])) (hb : f b = .inl (zg_c G 1, s, .inr (.inl num))) (ha1 : zg_B G ≤ a) (ha2 : a < nn) (hb1 : zg_B G ≤ b) (hb2 : b < nn) (hs : s ≤ 16) (hco : co i (nI s) = true)  : zc G l yX7_writePlace cX7_writePlace 6 (some .int) 1 [.ref a, .int i, .int as, .long v] (f, nn) 0 0 (fun o h' => o = some (.int 3) ∧ h' = (f, nn)) := by
  refine zc.of (by decide) (Nat.le_of_ble_eq_true rfl) ?_
  refine zv_aload_n dX7_writePlace_0 rfl ?_
  refine zv_ifnonnull (tgt := 6) dX7_writePlace_1 (by decide) ?_
  refine zv_aload_n dX7_writePlace_6 rfl ?_
  refine zv_instY (ci := 1) (fs := [.int K, .int (nI s), .ref b]) ha ha1 ha2 rfl zk_X7_43 (by decide +kernel) dX7_writePlace_7 ?_
  refine zv_if_eq (tgt := 70) dX7_writePlace_10 (by decide) (fun c => absurd c (by decide)) (fun _ => ?_)
  refine zv_aload_n dX7_writePlace_13 rfl ?_
  refine zv_castY (ci := 1) (fs := [.int K, .int (nI s), .ref b]) ha ha1 ha2 rfl zk_X7_43 (by decide +kernel) dX7_writePlace_14 ?_
  refine zv_astore dX7_writePlace_17 (by decide) ?_
  refine zv_iload_n dX7_writePlace_19 rfl ?_
  refine zv_if_lt (tgt := 32) dX7_writePlace_20 (by decide) (fun c20 => ?_) (fun c20 => ?_)
  · skip
    refine zv_iconstv (v := 3) dX7_writePlace_32 (by decide) ?_
    exact zv_ireturn dX7_writePlace_33 rfl ⟨rfl, rfl⟩
  · skip
    refine zv_iload_n dX7_writePlace_23 rfl ?_
    refine zv_aload dX7_writePlace_24 rfl ?_
    refine zv_get (ci := 1) (fs := [.int K, .int (nI s), .ref b]) zf_X7_186_1 ha ha1 ha2 rfl dX7_writePlace_26 ?_
    refine zv_icmp_lt (tgt := 34) dX7_writePlace_29 (by decide) (fun c29 => ?_) (fun c29 => ?_)
    · exact absurd c29 ((co_t hco).resolve_left c20)
    · skip
      refine zv_iconstv (v := 3) dX7_writePlace_32 (by decide) ?_
      exact zv_ireturn dX7_writePlace_33 rfl ⟨rfl, rfl⟩
set_option maxRecDepth 20000 in
set_option maxHeartbeats 1000000 in
theorem cX_wrNb {G : zh_G} {l : Launch} {f : Nat → va_E} {nn : Nat} {i as : Int32} {v : Int64} {a b s : Nat} {K : Int32} {num : Nat → Int64} (ha : f a = .inr (1, [.int K, .int (nI s), .ref b])) (hb : f b = .inl (zg_c G 1, s, .inr (.inl num))) (ha1 : zg_B G ≤ a) (ha2 : a < nn) (hb1 : zg_B G ≤ b) (hb2 : b < nn) (hs : s ≤ 16) (hco : co i (nI s) = false) (hg : gi as K = false)  : zc G l yX7_writePlace cX7_writePlace 6 (some .int) 1 [.ref a, .int i, .int as, .long v] (f, nn) 0 0 (fun o h' => o = some (.int 2) ∧ h' = (f, nn)) := by
  refine zc.of (by decide) (Nat.le_of_ble_eq_true rfl) ?_
  refine zv_aload_n dX7_writePlace_0 rfl ?_
  refine zv_ifnonnull (tgt := 6) dX7_writePlace_1 (by decide) ?_
  refine zv_aload_n dX7_writePlace_6 rfl ?_
  refine zv_instY (ci := 1) (fs := [.int K, .int (nI s), .ref b]) ha ha1 ha2 rfl zk_X7_43 (by decide +kernel) dX7_writePlace_7 ?_
  refine zv_if_eq (tgt := 70) dX7_writePlace_10 (by decide) (fun c => absurd c (by decide)) (fun _ => ?_)
  refine zv_aload_n dX7_writePlace_13 rfl ?_
  refine zv_castY (ci := 1) (fs := [.int K, .int (nI s), .ref b]) ha ha1 ha2 rfl zk_X7_43 (by decide +kernel) dX7_writePlace_14 ?_
  refine zv_astore dX7_writePlace_17 (by decide) ?_
  refine zv_iload_n dX7_writePlace_19 rfl ?_
  refine zv_if_lt (tgt := 32) dX7_writePlace_20 (by decide) (fun c20 => ?_) (fun c20 => ?_)
  · exact absurd c20 (co_f hco).1
  · skip
    refine zv_iload_n dX7_writePlace_23 rfl ?_
    refine zv_aload dX7_writePlace_24 rfl ?_
    refine zv_get (ci := 1) (fs := [.int K, .int (nI s), .ref b]) zf_X7_186_1 ha ha1 ha2 rfl dX7_writePlace_26 ?_
    refine zv_icmp_lt (tgt := 34) dX7_writePlace_29 (by decide) (fun c29 => ?_) (fun c29 => ?_)
    · skip
      refine zv_iload_n dX7_writePlace_34 rfl ?_
      refine zv_aload dX7_writePlace_35 rfl ?_
      refine zv_get (ci := 1) (fs := [.int K, .int (nI s), .ref b]) zf_X7_164_1 ha ha1 ha2 rfl dX7_writePlace_37 ?_
      refine zv_callSq (mc := 0) (ms := 0) zm_X7_182 zkyX7_goesInto cX_goes rfl rfl (Nat.le_of_ble_eq_true rfl) (by decide) dX7_writePlace_40 ?_
      refine zv_if_ne (tgt := 48) dX7_writePlace_43 (by decide) (fun c43 => ?_) (fun c43 => ?_)
      · exact absurd (zb_0.mpr hg) (by assumption)
      · skip
        refine zv_iconstv (v := 2) dX7_writePlace_46 (by decide) ?_
        exact zv_ireturn dX7_writePlace_47 rfl ⟨rfl, rfl⟩
    · exact absurd (co_f hco).2 c29
set_option maxRecDepth 20000 in
set_option maxHeartbeats 1000000 in
theorem cX_wrNy {G : zh_G} {l : Launch} {f : Nat → va_E} {nn : Nat} {i as : Int32} {v : Int64} {a b s : Nat} {K : Int32} {num : Nat → Int64} (ha : f a = .inr (1, [.int K, .int (nI s), .ref b])) (hb : f b = .inl (zg_c G 1, s, .inr (.inl num))) (ha1 : zg_B G ≤ a) (ha2 : a < nn) (hb1 : zg_B G ≤ b) (hb2 : b < nn) (hs : s ≤ 16) (hco : co i (nI s) = false) (hg : gi as K = true)  : zc G l yX7_writePlace cX7_writePlace 6 (some .int) 1 [.ref a, .int i, .int as, .long v] (f, nn) 0 0 (fun o h' => o = some (.int 0) ∧ h' = (va_up f b (.inl (zg_c G 1, s, .inr (.inl (vp_updL num i.toNatClampNeg (s_as K (s_as as v)))))), nn)) := by
  refine zc.of (by decide) (Nat.le_of_ble_eq_true rfl) ?_
  refine zv_aload_n dX7_writePlace_0 rfl ?_
  refine zv_ifnonnull (tgt := 6) dX7_writePlace_1 (by decide) ?_
  refine zv_aload_n dX7_writePlace_6 rfl ?_
  refine zv_instY (ci := 1) (fs := [.int K, .int (nI s), .ref b]) ha ha1 ha2 rfl zk_X7_43 (by decide +kernel) dX7_writePlace_7 ?_
  refine zv_if_eq (tgt := 70) dX7_writePlace_10 (by decide) (fun c => absurd c (by decide)) (fun _ => ?_)
  refine zv_aload_n dX7_writePlace_13 rfl ?_
  refine zv_castY (ci := 1) (fs := [.int K, .int (nI s), .ref b]) ha ha1 ha2 rfl zk_X7_43 (by decide +kernel) dX7_writePlace_14 ?_
  refine zv_astore dX7_writePlace_17 (by decide) ?_
  refine zv_iload_n dX7_writePlace_19 rfl ?_
  refine zv_if_lt (tgt := 32) dX7_writePlace_20 (by decide) (fun c20 => ?_) (fun c20 => ?_)
  · exact absurd c20 (co_f hco).1
  · skip
    refine zv_iload_n dX7_writePlace_23 rfl ?_
    refine zv_aload dX7_writePlace_24 rfl ?_
    refine zv_get (ci := 1) (fs := [.int K, .int (nI s), .ref b]) zf_X7_186_1 ha ha1 ha2 rfl dX7_writePlace_26 ?_
    refine zv_icmp_lt (tgt := 34) dX7_writePlace_29 (by decide) (fun c29 => ?_) (fun c29 => ?_)
    · skip
      refine zv_iload_n dX7_writePlace_34 rfl ?_
      refine zv_aload dX7_writePlace_35 rfl ?_
      refine zv_get (ci := 1) (fs := [.int K, .int (nI s), .ref b]) zf_X7_164_1 ha ha1 ha2 rfl dX7_writePlace_37 ?_
      refine zv_callSq (mc := 0) (ms := 0) zm_X7_182 zkyX7_goesInto cX_goes rfl rfl (Nat.le_of_ble_eq_true rfl) (by decide) dX7_writePlace_40 ?_
      refine zv_if_ne (tgt := 48) dX7_writePlace_43 (by decide) (fun c43 => ?_) (fun c43 => ?_)
      · skip
        refine zv_aload dX7_writePlace_48 rfl ?_
        refine zv_get (ci := 1) (fs := [.int K, .int (nI s), .ref b]) zf_X7_165_1 ha ha1 ha2 rfl dX7_writePlace_50 ?_
        refine zv_iload_n dX7_writePlace_53 rfl ?_
        refine zv_aload dX7_writePlace_54 rfl ?_
        refine zv_get (ci := 1) (fs := [.int K, .int (nI s), .ref b]) zf_X7_164_1 ha ha1 ha2 rfl dX7_writePlace_56 ?_
        refine zv_iload_n dX7_writePlace_59 rfl ?_
        refine zv_lload_n dX7_writePlace_60 rfl ?_
        refine zv_callSq (mc := 0) (ms := 0) zm_X7_187 zkyX7_asKind cX_as rfl rfl (Nat.le_of_ble_eq_true rfl) (by decide) dX7_writePlace_61 ?_
        refine zv_callSq (mc := 0) (ms := 0) zm_X7_187 zkyX7_asKind cX_as rfl rfl (Nat.le_of_ble_eq_true rfl) (by decide) dX7_writePlace_64 ?_
        refine zv_last hb hb1 hb2 (co_in hs hco) dX7_writePlace_67 ?_
        refine zv_iconstv (v := 0) dX7_writePlace_68 (by decide) ?_
        exact zv_ireturn dX7_writePlace_69 rfl ⟨rfl, rfl⟩
      · exact absurd (by assumption) (zb_n.mpr hg)
    · exact absurd (co_f hco).2 c29
set_option maxRecDepth 20000 in
set_option maxHeartbeats 1000000 in
theorem cX_sNz {G : zh_G} {l : Launch} {f : Nat → va_E} {nn : Nat} {i : Int32} {c : Nat} {hk : Int32} {hv : Int64} {ht : Option Nat} (hc : f c = .inr (0, [.int hk, .long hv, va_rf ht])) (hc1 : zg_B G ≤ c) (hc2 : c < nn) {a b s : Nat} {K : Int32} {num : Nat → Int64} (ha : f a = .inr (1, [.int K, .int (nI s), .ref b])) (hb : f b = .inl (zg_c G 1, s, .inr (.inl num))) (ha1 : zg_B G ≤ a) (ha2 : a < nn) (hb1 : zg_B G ≤ b) (hb2 : b < nn) (hs : s ≤ 16) (hk9 : hk = -9)  : zc G l yX7_setNumber cX7_setNumber 3 (some .int) 2 [.ref a, .int i, .ref c] (f, nn) 0 0 (fun o h' => o = some (.int 2) ∧ h' = (f, nn)) := by
  refine zc.of (by decide) (Nat.le_of_ble_eq_true rfl) ?_
  refine zv_aload_n dX7_setNumber_0 rfl ?_
  refine zv_get (ci := 0) (fs := [.int hk, .long hv, va_rf ht]) zf_X7_76_0 hc hc1 hc2 rfl dX7_setNumber_1 ?_
  refine zv_bipushv (v := (-9)) dX7_setNumber_4 (by decide) ?_
  refine zv_icmp_ne (tgt := 11) dX7_setNumber_6 (by decide) (fun c6 => ?_) (fun c6 => ?_)
  · exact absurd hk9 c6
  · skip
    refine zv_iconstv (v := 2) dX7_setNumber_9 (by decide) ?_
    exact zv_ireturn dX7_setNumber_10 rfl ⟨rfl, rfl⟩
set_option maxRecDepth 20000 in
set_option maxHeartbeats 1000000 in
theorem cX_stNz {G : zh_G} {l : Launch} {f : Nat → va_E} {nn : Nat} {i : Int32} {c : Nat} {hk : Int32} {hv : Int64} {ht : Option Nat} (hc : f c = .inr (0, [.int hk, .long hv, va_rf ht])) (hc1 : zg_B G ≤ c) (hc2 : c < nn) {a b s : Nat} {K : Int32} {num : Nat → Int64} (ha : f a = .inr (1, [.int K, .int (nI s), .ref b])) (hb : f b = .inl (zg_c G 1, s, .inr (.inl num))) (ha1 : zg_B G ≤ a) (ha2 : a < nn) (hb1 : zg_B G ≤ b) (hb2 : b < nn) (hs : s ≤ 16) (hk9 : hk = -9)  : zc G l yX7_setPlace cX7_setPlace 4 (some .int) 3 [.ref a, .int i, .ref c] (f, nn) 0 0 (fun o h' => o = some (.int 2) ∧ h' = (f, nn)) := by
  refine zc.of (by decide) (Nat.le_of_ble_eq_true rfl) ?_
  refine zv_aload_n dX7_setPlace_0 rfl ?_
  refine zv_ifnonnull (tgt := 6) dX7_setPlace_1 (by decide) ?_
  refine zv_aload_n dX7_setPlace_6 rfl ?_
  refine zv_instY (ci := 1) (fs := [.int K, .int (nI s), .ref b]) ha ha1 ha2 rfl zk_X7_43 (by decide +kernel) dX7_setPlace_7 ?_
  refine zv_if_eq (tgt := 25) dX7_setPlace_10 (by decide) (fun c => absurd c (by decide)) (fun _ => ?_)
  refine zv_aload_n dX7_setPlace_13 rfl ?_
  refine zv_castY (ci := 1) (fs := [.int K, .int (nI s), .ref b]) ha ha1 ha2 rfl zk_X7_43 (by decide +kernel) dX7_setPlace_14 ?_
  refine zv_astore_n dX7_setPlace_17 (by decide) ?_
  refine zv_aload_n dX7_setPlace_18 rfl ?_
  refine zv_iload_n dX7_setPlace_19 rfl ?_
  refine zv_aload_n dX7_setPlace_20 rfl ?_
  refine zv_callSq (mc := 0) (ms := 0) zm_X7_172 zkyX7_setNumber (cX_sNz hc hc1 hc2 ha hb ha1 ha2 hb1 hb2 hs hk9) rfl rfl (Nat.le_of_ble_eq_true rfl) (by decide) dX7_setPlace_21 ?_
  exact zv_ireturn dX7_setPlace_24 rfl ⟨rfl, rfl⟩
set_option maxRecDepth 20000 in
set_option maxHeartbeats 1000000 in
theorem cX_sNo {G : zh_G} {l : Launch} {f : Nat → va_E} {nn : Nat} {i : Int32} {c : Nat} {hk : Int32} {hv : Int64} {ht : Option Nat} (hc : f c = .inr (0, [.int hk, .long hv, va_rf ht])) (hc1 : zg_B G ≤ c) (hc2 : c < nn) {a b s : Nat} {K : Int32} {num : Nat → Int64} (ha : f a = .inr (1, [.int K, .int (nI s), .ref b])) (hb : f b = .inl (zg_c G 1, s, .inr (.inl num))) (ha1 : zg_B G ≤ a) (ha2 : a < nn) (hb1 : zg_B G ≤ b) (hb2 : b < nn) (hs : s ≤ 16) (hk9 : ¬ hk = -9) (hco : co i (nI s) = true)  : zc G l yX7_setNumber cX7_setNumber 3 (some .int) 2 [.ref a, .int i, .ref c] (f, nn) 0 0 (fun o h' => o = some (.int 3) ∧ h' = (f, nn)) := by
  refine zc.of (by decide) (Nat.le_of_ble_eq_true rfl) ?_
  refine zv_aload_n dX7_setNumber_0 rfl ?_
  refine zv_get (ci := 0) (fs := [.int hk, .long hv, va_rf ht]) zf_X7_76_0 hc hc1 hc2 rfl dX7_setNumber_1 ?_
  refine zv_bipushv (v := (-9)) dX7_setNumber_4 (by decide) ?_
  refine zv_icmp_ne (tgt := 11) dX7_setNumber_6 (by decide) (fun c6 => ?_) (fun c6 => ?_)
  · skip
    refine zv_aload_n dX7_setNumber_11 rfl ?_
    refine zv_iload_n dX7_setNumber_12 rfl ?_
    refine zv_aload_n dX7_setNumber_13 rfl ?_
    refine zv_get (ci := 0) (fs := [.int hk, .long hv, va_rf ht]) zf_X7_76_0 hc hc1 hc2 rfl dX7_setNumber_14 ?_
    refine zv_aload_n dX7_setNumber_17 rfl ?_
    refine zv_get (ci := 0) (fs := [.int hk, .long hv, va_rf ht]) zf_X7_90_0 hc hc1 hc2 rfl dX7_setNumber_18 ?_
    refine zv_callSq (mc := 0) (ms := 0) zm_X7_94 zkyX7_writePlace (cX_wrNo ha hb ha1 ha2 hb1 hb2 hs hco) rfl rfl (Nat.le_of_ble_eq_true rfl) (by decide) dX7_setNumber_21 ?_
    exact zv_ireturn dX7_setNumber_24 rfl ⟨rfl, rfl⟩
  · exact absurd c6 hk9
set_option maxRecDepth 20000 in
set_option maxHeartbeats 1000000 in
theorem cX_stNo {G : zh_G} {l : Launch} {f : Nat → va_E} {nn : Nat} {i : Int32} {c : Nat} {hk : Int32} {hv : Int64} {ht : Option Nat} (hc : f c = .inr (0, [.int hk, .long hv, va_rf ht])) (hc1 : zg_B G ≤ c) (hc2 : c < nn) {a b s : Nat} {K : Int32} {num : Nat → Int64} (ha : f a = .inr (1, [.int K, .int (nI s), .ref b])) (hb : f b = .inl (zg_c G 1, s, .inr (.inl num))) (ha1 : zg_B G ≤ a) (ha2 : a < nn) (hb1 : zg_B G ≤ b) (hb2 : b < nn) (hs : s ≤ 16) (hk9 : ¬ hk = -9) (hco : co i (nI s) = true)  : zc G l yX7_setPlace cX7_setPlace 4 (some .int) 3 [.ref a, .int i, .ref c] (f, nn) 0 0 (fun o h' => o = some (.int 3) ∧ h' = (f, nn)) := by
  refine zc.of (by decide) (Nat.le_of_ble_eq_true rfl) ?_
  refine zv_aload_n dX7_setPlace_0 rfl ?_
  refine zv_ifnonnull (tgt := 6) dX7_setPlace_1 (by decide) ?_
  refine zv_aload_n dX7_setPlace_6 rfl ?_
  refine zv_instY (ci := 1) (fs := [.int K, .int (nI s), .ref b]) ha ha1 ha2 rfl zk_X7_43 (by decide +kernel) dX7_setPlace_7 ?_
  refine zv_if_eq (tgt := 25) dX7_setPlace_10 (by decide) (fun c => absurd c (by decide)) (fun _ => ?_)
  refine zv_aload_n dX7_setPlace_13 rfl ?_
  refine zv_castY (ci := 1) (fs := [.int K, .int (nI s), .ref b]) ha ha1 ha2 rfl zk_X7_43 (by decide +kernel) dX7_setPlace_14 ?_
  refine zv_astore_n dX7_setPlace_17 (by decide) ?_
  refine zv_aload_n dX7_setPlace_18 rfl ?_
  refine zv_iload_n dX7_setPlace_19 rfl ?_
  refine zv_aload_n dX7_setPlace_20 rfl ?_
  refine zv_callSq (mc := 0) (ms := 0) zm_X7_172 zkyX7_setNumber (cX_sNo hc hc1 hc2 ha hb ha1 ha2 hb1 hb2 hs hk9 hco) rfl rfl (Nat.le_of_ble_eq_true rfl) (by decide) dX7_setPlace_21 ?_
  exact zv_ireturn dX7_setPlace_24 rfl ⟨rfl, rfl⟩
set_option maxRecDepth 20000 in
set_option maxHeartbeats 1000000 in
theorem cX_sNb {G : zh_G} {l : Launch} {f : Nat → va_E} {nn : Nat} {i : Int32} {c : Nat} {hk : Int32} {hv : Int64} {ht : Option Nat} (hc : f c = .inr (0, [.int hk, .long hv, va_rf ht])) (hc1 : zg_B G ≤ c) (hc2 : c < nn) {a b s : Nat} {K : Int32} {num : Nat → Int64} (ha : f a = .inr (1, [.int K, .int (nI s), .ref b])) (hb : f b = .inl (zg_c G 1, s, .inr (.inl num))) (ha1 : zg_B G ≤ a) (ha2 : a < nn) (hb1 : zg_B G ≤ b) (hb2 : b < nn) (hs : s ≤ 16) (hk9 : ¬ hk = -9) (hco : co i (nI s) = false) (hg : gi hk K = false)  : zc G l yX7_setNumber cX7_setNumber 3 (some .int) 2 [.ref a, .int i, .ref c] (f, nn) 0 0 (fun o h' => o = some (.int 2) ∧ h' = (f, nn)) := by
  refine zc.of (by decide) (Nat.le_of_ble_eq_true rfl) ?_
  refine zv_aload_n dX7_setNumber_0 rfl ?_
  refine zv_get (ci := 0) (fs := [.int hk, .long hv, va_rf ht]) zf_X7_76_0 hc hc1 hc2 rfl dX7_setNumber_1 ?_
  refine zv_bipushv (v := (-9)) dX7_setNumber_4 (by decide) ?_
  refine zv_icmp_ne (tgt := 11) dX7_setNumber_6 (by decide) (fun c6 => ?_) (fun c6 => ?_)
  · skip
    refine zv_aload_n dX7_setNumber_11 rfl ?_
    refine zv_iload_n dX7_setNumber_12 rfl ?_
    refine zv_aload_n dX7_setNumber_13 rfl ?_
    refine zv_get (ci := 0) (fs := [.int hk, .long hv, va_rf ht]) zf_X7_76_0 hc hc1 hc2 rfl dX7_setNumber_14 ?_
    refine zv_aload_n dX7_setNumber_17 rfl ?_
    refine zv_get (ci := 0) (fs := [.int hk, .long hv, va_rf ht]) zf_X7_90_0 hc hc1 hc2 rfl dX7_setNumber_18 ?_
    refine zv_callSq (mc := 0) (ms := 0) zm_X7_94 zkyX7_writePlace (cX_wrNb ha hb ha1 ha2 hb1 hb2 hs hco hg) rfl rfl (Nat.le_of_ble_eq_true rfl) (by decide) dX7_setNumber_21 ?_
    exact zv_ireturn dX7_setNumber_24 rfl ⟨rfl, rfl⟩
  · exact absurd c6 hk9
set_option maxRecDepth 20000 in
set_option maxHeartbeats 1000000 in
theorem cX_stNb {G : zh_G} {l : Launch} {f : Nat → va_E} {nn : Nat} {i : Int32} {c : Nat} {hk : Int32} {hv : Int64} {ht : Option Nat} (hc : f c = .inr (0, [.int hk, .long hv, va_rf ht])) (hc1 : zg_B G ≤ c) (hc2 : c < nn) {a b s : Nat} {K : Int32} {num : Nat → Int64} (ha : f a = .inr (1, [.int K, .int (nI s), .ref b])) (hb : f b = .inl (zg_c G 1, s, .inr (.inl num))) (ha1 : zg_B G ≤ a) (ha2 : a < nn) (hb1 : zg_B G ≤ b) (hb2 : b < nn) (hs : s ≤ 16) (hk9 : ¬ hk = -9) (hco : co i (nI s) = false) (hg : gi hk K = false)  : zc G l yX7_setPlace cX7_setPlace 4 (some .int) 3 [.ref a, .int i, .ref c] (f, nn) 0 0 (fun o h' => o = some (.int 2) ∧ h' = (f, nn)) := by
  refine zc.of (by decide) (Nat.le_of_ble_eq_true rfl) ?_
  refine zv_aload_n dX7_setPlace_0 rfl ?_
  refine zv_ifnonnull (tgt := 6) dX7_setPlace_1 (by decide) ?_
  refine zv_aload_n dX7_setPlace_6 rfl ?_
  refine zv_instY (ci := 1) (fs := [.int K, .int (nI s), .ref b]) ha ha1 ha2 rfl zk_X7_43 (by decide +kernel) dX7_setPlace_7 ?_
  refine zv_if_eq (tgt := 25) dX7_setPlace_10 (by decide) (fun c => absurd c (by decide)) (fun _ => ?_)
  refine zv_aload_n dX7_setPlace_13 rfl ?_
  refine zv_castY (ci := 1) (fs := [.int K, .int (nI s), .ref b]) ha ha1 ha2 rfl zk_X7_43 (by decide +kernel) dX7_setPlace_14 ?_
  refine zv_astore_n dX7_setPlace_17 (by decide) ?_
  refine zv_aload_n dX7_setPlace_18 rfl ?_
  refine zv_iload_n dX7_setPlace_19 rfl ?_
  refine zv_aload_n dX7_setPlace_20 rfl ?_
  refine zv_callSq (mc := 0) (ms := 0) zm_X7_172 zkyX7_setNumber (cX_sNb hc hc1 hc2 ha hb ha1 ha2 hb1 hb2 hs hk9 hco hg) rfl rfl (Nat.le_of_ble_eq_true rfl) (by decide) dX7_setPlace_21 ?_
  exact zv_ireturn dX7_setPlace_24 rfl ⟨rfl, rfl⟩
set_option maxRecDepth 20000 in
set_option maxHeartbeats 1000000 in
theorem cX_sNy {G : zh_G} {l : Launch} {f : Nat → va_E} {nn : Nat} {i : Int32} {c : Nat} {hk : Int32} {hv : Int64} {ht : Option Nat} (hc : f c = .inr (0, [.int hk, .long hv, va_rf ht])) (hc1 : zg_B G ≤ c) (hc2 : c < nn) {a b s : Nat} {K : Int32} {num : Nat → Int64} (ha : f a = .inr (1, [.int K, .int (nI s), .ref b])) (hb : f b = .inl (zg_c G 1, s, .inr (.inl num))) (ha1 : zg_B G ≤ a) (ha2 : a < nn) (hb1 : zg_B G ≤ b) (hb2 : b < nn) (hs : s ≤ 16) (hk9 : ¬ hk = -9) (hco : co i (nI s) = false) (hg : gi hk K = true)  : zc G l yX7_setNumber cX7_setNumber 3 (some .int) 2 [.ref a, .int i, .ref c] (f, nn) 0 0 (fun o h' => o = some (.int 0) ∧ h' = (va_up f b (.inl (zg_c G 1, s, .inr (.inl (vp_updL num i.toNatClampNeg (s_as K (s_as hk hv)))))), nn)) := by
  refine zc.of (by decide) (Nat.le_of_ble_eq_true rfl) ?_
  refine zv_aload_n dX7_setNumber_0 rfl ?_
  refine zv_get (ci := 0) (fs := [.int hk, .long hv, va_rf ht]) zf_X7_76_0 hc hc1 hc2 rfl dX7_setNumber_1 ?_
  refine zv_bipushv (v := (-9)) dX7_setNumber_4 (by decide) ?_
  refine zv_icmp_ne (tgt := 11) dX7_setNumber_6 (by decide) (fun c6 => ?_) (fun c6 => ?_)
  · skip
    refine zv_aload_n dX7_setNumber_11 rfl ?_
    refine zv_iload_n dX7_setNumber_12 rfl ?_
    refine zv_aload_n dX7_setNumber_13 rfl ?_
    refine zv_get (ci := 0) (fs := [.int hk, .long hv, va_rf ht]) zf_X7_76_0 hc hc1 hc2 rfl dX7_setNumber_14 ?_
    refine zv_aload_n dX7_setNumber_17 rfl ?_
    refine zv_get (ci := 0) (fs := [.int hk, .long hv, va_rf ht]) zf_X7_90_0 hc hc1 hc2 rfl dX7_setNumber_18 ?_
    refine zv_callSq (mc := 0) (ms := 0) zm_X7_94 zkyX7_writePlace (cX_wrNy ha hb ha1 ha2 hb1 hb2 hs hco hg) rfl rfl (Nat.le_of_ble_eq_true rfl) (by decide) dX7_setNumber_21 ?_
    exact zv_ireturn dX7_setNumber_24 rfl ⟨rfl, rfl⟩
  · exact absurd c6 hk9
set_option maxRecDepth 20000 in
set_option maxHeartbeats 1000000 in
theorem cX_stNy {G : zh_G} {l : Launch} {f : Nat → va_E} {nn : Nat} {i : Int32} {c : Nat} {hk : Int32} {hv : Int64} {ht : Option Nat} (hc : f c = .inr (0, [.int hk, .long hv, va_rf ht])) (hc1 : zg_B G ≤ c) (hc2 : c < nn) {a b s : Nat} {K : Int32} {num : Nat → Int64} (ha : f a = .inr (1, [.int K, .int (nI s), .ref b])) (hb : f b = .inl (zg_c G 1, s, .inr (.inl num))) (ha1 : zg_B G ≤ a) (ha2 : a < nn) (hb1 : zg_B G ≤ b) (hb2 : b < nn) (hs : s ≤ 16) (hk9 : ¬ hk = -9) (hco : co i (nI s) = false) (hg : gi hk K = true)  : zc G l yX7_setPlace cX7_setPlace 4 (some .int) 3 [.ref a, .int i, .ref c] (f, nn) 0 0 (fun o h' => o = some (.int 0) ∧ h' = (va_up f b (.inl (zg_c G 1, s, .inr (.inl (vp_updL num i.toNatClampNeg (s_as K (s_as hk hv)))))), nn)) := by
  refine zc.of (by decide) (Nat.le_of_ble_eq_true rfl) ?_
  refine zv_aload_n dX7_setPlace_0 rfl ?_
  refine zv_ifnonnull (tgt := 6) dX7_setPlace_1 (by decide) ?_
  refine zv_aload_n dX7_setPlace_6 rfl ?_
  refine zv_instY (ci := 1) (fs := [.int K, .int (nI s), .ref b]) ha ha1 ha2 rfl zk_X7_43 (by decide +kernel) dX7_setPlace_7 ?_
  refine zv_if_eq (tgt := 25) dX7_setPlace_10 (by decide) (fun c => absurd c (by decide)) (fun _ => ?_)
  refine zv_aload_n dX7_setPlace_13 rfl ?_
  refine zv_castY (ci := 1) (fs := [.int K, .int (nI s), .ref b]) ha ha1 ha2 rfl zk_X7_43 (by decide +kernel) dX7_setPlace_14 ?_
  refine zv_astore_n dX7_setPlace_17 (by decide) ?_
  refine zv_aload_n dX7_setPlace_18 rfl ?_
  refine zv_iload_n dX7_setPlace_19 rfl ?_
  refine zv_aload_n dX7_setPlace_20 rfl ?_
  refine zv_callSq (mc := 0) (ms := 0) zm_X7_172 zkyX7_setNumber (cX_sNy hc hc1 hc2 ha hb ha1 ha2 hb1 hb2 hs hk9 hco hg) rfl rfl (Nat.le_of_ble_eq_true rfl) (by decide) dX7_setPlace_21 ?_
  exact zv_ireturn dX7_setPlace_24 rfl ⟨rfl, rfl⟩
set_option maxRecDepth 20000 in
set_option maxHeartbeats 1000000 in
theorem cX_sTo {G : zh_G} {l : Launch} {f : Nat → va_E} {nn : Nat} {i : Int32} {c : Nat} {hk : Int32} {hv : Int64} {ht : Option Nat} (hc : f c = .inr (0, [.int hk, .long hv, va_rf ht])) (hc1 : zg_B G ≤ c) (hc2 : c < nn) {a b s : Nat} {K : Int32} {thg : Nat → Option Nat} (ha : f a = .inr (4, [.int K, .int (nI s), .ref b])) (hb : f b = .inl (zg_c G 3, s, .inr (.inr (.inr (.inr thg))))) (ha1 : zg_B G ≤ a) (ha2 : a < nn) (hb1 : zg_B G ≤ b) (hb2 : b < nn) (hs : s ≤ 16) (hco : co i (nI s) = true)  : zc G l yX7_setThing cX7_setThing 3 (some .int) 1 [.ref a, .int i, .ref c] (f, nn) 0 0 (fun o h' => o = some (.int 3) ∧ h' = (f, nn)) := by
  refine zc.of (by decide) (Nat.le_of_ble_eq_true rfl) ?_
  refine zv_iload_n dX7_setThing_0 rfl ?_
  refine zv_if_lt (tgt := 12) dX7_setThing_1 (by decide) (fun c1 => ?_) (fun c1 => ?_)
  · skip
    refine zv_iconstv (v := 3) dX7_setThing_12 (by decide) ?_
    exact zv_ireturn dX7_setThing_13 rfl ⟨rfl, rfl⟩
  · skip
    refine zv_iload_n dX7_setThing_4 rfl ?_
    refine zv_aload_n dX7_setThing_5 rfl ?_
    refine zv_get (ci := 4) (fs := [.int K, .int (nI s), .ref b]) zf_X7_180_4 ha ha1 ha2 rfl dX7_setThing_6 ?_
    refine zv_icmp_lt (tgt := 14) dX7_setThing_9 (by decide) (fun c9 => ?_) (fun c9 => ?_)
    · exact absurd c9 ((co_t hco).resolve_left c1)
    · skip
      refine zv_iconstv (v := 3) dX7_setThing_12 (by decide) ?_
      exact zv_ireturn dX7_setThing_13 rfl ⟨rfl, rfl⟩
set_option maxRecDepth 20000 in
set_option maxHeartbeats 1000000 in
theorem cX_stTo {G : zh_G} {l : Launch} {f : Nat → va_E} {nn : Nat} {i : Int32} {c : Nat} {hk : Int32} {hv : Int64} {ht : Option Nat} (hc : f c = .inr (0, [.int hk, .long hv, va_rf ht])) (hc1 : zg_B G ≤ c) (hc2 : c < nn) {a b s : Nat} {K : Int32} {thg : Nat → Option Nat} (ha : f a = .inr (4, [.int K, .int (nI s), .ref b])) (hb : f b = .inl (zg_c G 3, s, .inr (.inr (.inr (.inr thg))))) (ha1 : zg_B G ≤ a) (ha2 : a < nn) (hb1 : zg_B G ≤ b) (hb2 : b < nn) (hs : s ≤ 16) (hco : co i (nI s) = true)  : zc G l yX7_setPlace cX7_setPlace 4 (some .int) 3 [.ref a, .int i, .ref c] (f, nn) 0 0 (fun o h' => o = some (.int 3) ∧ h' = (f, nn)) := by
  refine zc.of (by decide) (Nat.le_of_ble_eq_true rfl) ?_
  refine zv_aload_n dX7_setPlace_0 rfl ?_
  refine zv_ifnonnull (tgt := 6) dX7_setPlace_1 (by decide) ?_
  refine zv_aload_n dX7_setPlace_6 rfl ?_
  refine zv_instNo (ci := 4) (fs := [.int K, .int (nI s), .ref b]) ha ha1 ha2 rfl zk_X7_43 (by decide +kernel) dX7_setPlace_7 ?_
  refine zv_if_eq (tgt := 25) dX7_setPlace_10 (by decide) (fun _ => ?_) (fun c => absurd rfl c)
  refine zv_aload_n dX7_setPlace_25 rfl ?_
  refine zv_instY (ci := 4) (fs := [.int K, .int (nI s), .ref b]) ha ha1 ha2 rfl zk_X7_48 (by decide +kernel) dX7_setPlace_26 ?_
  refine zv_if_eq (tgt := 44) dX7_setPlace_29 (by decide) (fun c => absurd c (by decide)) (fun _ => ?_)
  refine zv_aload_n dX7_setPlace_32 rfl ?_
  refine zv_castY (ci := 4) (fs := [.int K, .int (nI s), .ref b]) ha ha1 ha2 rfl zk_X7_48 (by decide +kernel) dX7_setPlace_33 ?_
  refine zv_astore_n dX7_setPlace_36 (by decide) ?_
  refine zv_aload_n dX7_setPlace_37 rfl ?_
  refine zv_iload_n dX7_setPlace_38 rfl ?_
  refine zv_aload_n dX7_setPlace_39 rfl ?_
  refine zv_callSq (mc := 0) (ms := 0) zm_X7_176 zkyX7_setThing (cX_sTo hc hc1 hc2 ha hb ha1 ha2 hb1 hb2 hs hco) rfl rfl (Nat.le_of_ble_eq_true rfl) (by decide) dX7_setPlace_40 ?_
  exact zv_ireturn dX7_setPlace_43 rfl ⟨rfl, rfl⟩
set_option maxRecDepth 20000 in
set_option maxHeartbeats 1000000 in
theorem cX_sTb {G : zh_G} {l : Launch} {f : Nat → va_E} {nn : Nat} {i : Int32} {c : Nat} {hk : Int32} {hv : Int64} {ht : Option Nat} (hc : f c = .inr (0, [.int hk, .long hv, va_rf ht])) (hc1 : zg_B G ≤ c) (hc2 : c < nn) {a b s : Nat} {K : Int32} {thg : Nat → Option Nat} (ha : f a = .inr (4, [.int K, .int (nI s), .ref b])) (hb : f b = .inl (zg_c G 3, s, .inr (.inr (.inr (.inr thg))))) (ha1 : zg_B G ≤ a) (ha2 : a < nn) (hb1 : zg_B G ≤ b) (hb2 : b < nn) (hs : s ≤ 16) (hco : co i (nI s) = false) (hk9 : ¬ hk = -9) (hg : gi hk K = false)  : zc G l yX7_setThing cX7_setThing 3 (some .int) 1 [.ref a, .int i, .ref c] (f, nn) 0 0 (fun o h' => o = some (.int 2) ∧ h' = (f, nn)) := by
  refine zc.of (by decide) (Nat.le_of_ble_eq_true rfl) ?_
  refine zv_iload_n dX7_setThing_0 rfl ?_
  refine zv_if_lt (tgt := 12) dX7_setThing_1 (by decide) (fun c1 => ?_) (fun c1 => ?_)
  · exact absurd c1 (co_f hco).1
  · skip
    refine zv_iload_n dX7_setThing_4 rfl ?_
    refine zv_aload_n dX7_setThing_5 rfl ?_
    refine zv_get (ci := 4) (fs := [.int K, .int (nI s), .ref b]) zf_X7_180_4 ha ha1 ha2 rfl dX7_setThing_6 ?_
    refine zv_icmp_lt (tgt := 14) dX7_setThing_9 (by decide) (fun c9 => ?_) (fun c9 => ?_)
    · skip
      refine zv_aload_n dX7_setThing_14 rfl ?_
      refine zv_get (ci := 0) (fs := [.int hk, .long hv, va_rf ht]) zf_X7_76_0 hc hc1 hc2 rfl dX7_setThing_15 ?_
      refine zv_bipushv (v := (-9)) dX7_setThing_18 (by decide) ?_
      refine zv_icmp_eq (tgt := 39) dX7_setThing_20 (by decide) (fun c20 => ?_) (fun c20 => ?_)
      · exact absurd c20 hk9
      · skip
        refine zv_aload_n dX7_setThing_23 rfl ?_
        refine zv_get (ci := 0) (fs := [.int hk, .long hv, va_rf ht]) zf_X7_76_0 hc hc1 hc2 rfl dX7_setThing_24 ?_
        refine zv_aload_n dX7_setThing_27 rfl ?_
        refine zv_get (ci := 4) (fs := [.int K, .int (nI s), .ref b]) zf_X7_181_4 ha ha1 ha2 rfl dX7_setThing_28 ?_
        refine zv_callSq (mc := 0) (ms := 0) zm_X7_182 zkyX7_goesInto cX_goes rfl rfl (Nat.le_of_ble_eq_true rfl) (by decide) dX7_setThing_31 ?_
        refine zv_if_ne (tgt := 39) dX7_setThing_34 (by decide) (fun c34 => ?_) (fun c34 => ?_)
        · exact absurd (zb_0.mpr hg) (by assumption)
        · skip
          refine zv_iconstv (v := 2) dX7_setThing_37 (by decide) ?_
          exact zv_ireturn dX7_setThing_38 rfl ⟨rfl, rfl⟩
    · exact absurd (co_f hco).2 c9
set_option maxRecDepth 20000 in
set_option maxHeartbeats 1000000 in
theorem cX_stTb {G : zh_G} {l : Launch} {f : Nat → va_E} {nn : Nat} {i : Int32} {c : Nat} {hk : Int32} {hv : Int64} {ht : Option Nat} (hc : f c = .inr (0, [.int hk, .long hv, va_rf ht])) (hc1 : zg_B G ≤ c) (hc2 : c < nn) {a b s : Nat} {K : Int32} {thg : Nat → Option Nat} (ha : f a = .inr (4, [.int K, .int (nI s), .ref b])) (hb : f b = .inl (zg_c G 3, s, .inr (.inr (.inr (.inr thg))))) (ha1 : zg_B G ≤ a) (ha2 : a < nn) (hb1 : zg_B G ≤ b) (hb2 : b < nn) (hs : s ≤ 16) (hco : co i (nI s) = false) (hk9 : ¬ hk = -9) (hg : gi hk K = false)  : zc G l yX7_setPlace cX7_setPlace 4 (some .int) 3 [.ref a, .int i, .ref c] (f, nn) 0 0 (fun o h' => o = some (.int 2) ∧ h' = (f, nn)) := by
  refine zc.of (by decide) (Nat.le_of_ble_eq_true rfl) ?_
  refine zv_aload_n dX7_setPlace_0 rfl ?_
  refine zv_ifnonnull (tgt := 6) dX7_setPlace_1 (by decide) ?_
  refine zv_aload_n dX7_setPlace_6 rfl ?_
  refine zv_instNo (ci := 4) (fs := [.int K, .int (nI s), .ref b]) ha ha1 ha2 rfl zk_X7_43 (by decide +kernel) dX7_setPlace_7 ?_
  refine zv_if_eq (tgt := 25) dX7_setPlace_10 (by decide) (fun _ => ?_) (fun c => absurd rfl c)
  refine zv_aload_n dX7_setPlace_25 rfl ?_
  refine zv_instY (ci := 4) (fs := [.int K, .int (nI s), .ref b]) ha ha1 ha2 rfl zk_X7_48 (by decide +kernel) dX7_setPlace_26 ?_
  refine zv_if_eq (tgt := 44) dX7_setPlace_29 (by decide) (fun c => absurd c (by decide)) (fun _ => ?_)
  refine zv_aload_n dX7_setPlace_32 rfl ?_
  refine zv_castY (ci := 4) (fs := [.int K, .int (nI s), .ref b]) ha ha1 ha2 rfl zk_X7_48 (by decide +kernel) dX7_setPlace_33 ?_
  refine zv_astore_n dX7_setPlace_36 (by decide) ?_
  refine zv_aload_n dX7_setPlace_37 rfl ?_
  refine zv_iload_n dX7_setPlace_38 rfl ?_
  refine zv_aload_n dX7_setPlace_39 rfl ?_
  refine zv_callSq (mc := 0) (ms := 0) zm_X7_176 zkyX7_setThing (cX_sTb hc hc1 hc2 ha hb ha1 ha2 hb1 hb2 hs hco hk9 hg) rfl rfl (Nat.le_of_ble_eq_true rfl) (by decide) dX7_setPlace_40 ?_
  exact zv_ireturn dX7_setPlace_43 rfl ⟨rfl, rfl⟩
set_option maxRecDepth 20000 in
set_option maxHeartbeats 1000000 in
theorem cX_sTz {G : zh_G} {l : Launch} {f : Nat → va_E} {nn : Nat} {i : Int32} {c : Nat} {hk : Int32} {hv : Int64} {ht : Option Nat} (hc : f c = .inr (0, [.int hk, .long hv, va_rf ht])) (hc1 : zg_B G ≤ c) (hc2 : c < nn) {a b s : Nat} {K : Int32} {thg : Nat → Option Nat} (ha : f a = .inr (4, [.int K, .int (nI s), .ref b])) (hb : f b = .inl (zg_c G 3, s, .inr (.inr (.inr (.inr thg))))) (ha1 : zg_B G ≤ a) (ha2 : a < nn) (hb1 : zg_B G ≤ b) (hb2 : b < nn) (hs : s ≤ 16) (hco : co i (nI s) = false) (hk9 : hk = -9) (h2 : ht = none)  : zc G l yX7_setThing cX7_setThing 3 (some .int) 1 [.ref a, .int i, .ref c] (f, nn) 0 0 (fun o h' => o = some (.int 0) ∧ h' = (va_up f b (.inl (zg_c G 3, s, .inr (.inr (.inr (.inr (va_up thg i.toNatClampNeg none)))))), nn)) := by
  refine zc.of (by decide) (Nat.le_of_ble_eq_true rfl) ?_
  refine zv_iload_n dX7_setThing_0 rfl ?_
  refine zv_if_lt (tgt := 12) dX7_setThing_1 (by decide) (fun c1 => ?_) (fun c1 => ?_)
  · exact absurd c1 (co_f hco).1
  · skip
    refine zv_iload_n dX7_setThing_4 rfl ?_
    refine zv_aload_n dX7_setThing_5 rfl ?_
    refine zv_get (ci := 4) (fs := [.int K, .int (nI s), .ref b]) zf_X7_180_4 ha ha1 ha2 rfl dX7_setThing_6 ?_
    refine zv_icmp_lt (tgt := 14) dX7_setThing_9 (by decide) (fun c9 => ?_) (fun c9 => ?_)
    · skip
      refine zv_aload_n dX7_setThing_14 rfl ?_
      refine zv_get (ci := 0) (fs := [.int hk, .long hv, va_rf ht]) zf_X7_76_0 hc hc1 hc2 rfl dX7_setThing_15 ?_
      refine zv_bipushv (v := (-9)) dX7_setThing_18 (by decide) ?_
      refine zv_icmp_eq (tgt := 39) dX7_setThing_20 (by decide) (fun c20 => ?_) (fun c20 => ?_)
      · skip
        refine zv_aload_n dX7_setThing_39 rfl ?_
        refine zv_get (ci := 4) (fs := [.int K, .int (nI s), .ref b]) zf_X7_169_4 ha ha1 ha2 rfl dX7_setThing_40 ?_
        refine zv_iload_n dX7_setThing_43 rfl ?_
        refine zv_aload_n dX7_setThing_44 rfl ?_
        refine zv_get (ci := 0) (fs := [.int hk, .long hv, va_rf ht]) zf_X7_51_0 hc hc1 hc2 rfl dX7_setThing_45 ?_
        rw [h2]
        refine zv_aast3N hb hb1 hb2 (co_in hs hco) dX7_setThing_48 ?_
        refine zv_iconstv (v := 0) dX7_setThing_49 (by decide) ?_
        exact zv_ireturn dX7_setThing_50 rfl ⟨rfl, rfl⟩
      · exact absurd hk9 c20
    · exact absurd (co_f hco).2 c9
set_option maxRecDepth 20000 in
set_option maxHeartbeats 1000000 in
theorem cX_stTz {G : zh_G} {l : Launch} {f : Nat → va_E} {nn : Nat} {i : Int32} {c : Nat} {hk : Int32} {hv : Int64} {ht : Option Nat} (hc : f c = .inr (0, [.int hk, .long hv, va_rf ht])) (hc1 : zg_B G ≤ c) (hc2 : c < nn) {a b s : Nat} {K : Int32} {thg : Nat → Option Nat} (ha : f a = .inr (4, [.int K, .int (nI s), .ref b])) (hb : f b = .inl (zg_c G 3, s, .inr (.inr (.inr (.inr thg))))) (ha1 : zg_B G ≤ a) (ha2 : a < nn) (hb1 : zg_B G ≤ b) (hb2 : b < nn) (hs : s ≤ 16) (hco : co i (nI s) = false) (hk9 : hk = -9) (h2 : ht = none)  : zc G l yX7_setPlace cX7_setPlace 4 (some .int) 3 [.ref a, .int i, .ref c] (f, nn) 0 0 (fun o h' => o = some (.int 0) ∧ h' = (va_up f b (.inl (zg_c G 3, s, .inr (.inr (.inr (.inr (va_up thg i.toNatClampNeg none)))))), nn)) := by
  refine zc.of (by decide) (Nat.le_of_ble_eq_true rfl) ?_
  refine zv_aload_n dX7_setPlace_0 rfl ?_
  refine zv_ifnonnull (tgt := 6) dX7_setPlace_1 (by decide) ?_
  refine zv_aload_n dX7_setPlace_6 rfl ?_
  refine zv_instNo (ci := 4) (fs := [.int K, .int (nI s), .ref b]) ha ha1 ha2 rfl zk_X7_43 (by decide +kernel) dX7_setPlace_7 ?_
  refine zv_if_eq (tgt := 25) dX7_setPlace_10 (by decide) (fun _ => ?_) (fun c => absurd rfl c)
  refine zv_aload_n dX7_setPlace_25 rfl ?_
  refine zv_instY (ci := 4) (fs := [.int K, .int (nI s), .ref b]) ha ha1 ha2 rfl zk_X7_48 (by decide +kernel) dX7_setPlace_26 ?_
  refine zv_if_eq (tgt := 44) dX7_setPlace_29 (by decide) (fun c => absurd c (by decide)) (fun _ => ?_)
  refine zv_aload_n dX7_setPlace_32 rfl ?_
  refine zv_castY (ci := 4) (fs := [.int K, .int (nI s), .ref b]) ha ha1 ha2 rfl zk_X7_48 (by decide +kernel) dX7_setPlace_33 ?_
  refine zv_astore_n dX7_setPlace_36 (by decide) ?_
  refine zv_aload_n dX7_setPlace_37 rfl ?_
  refine zv_iload_n dX7_setPlace_38 rfl ?_
  refine zv_aload_n dX7_setPlace_39 rfl ?_
  refine zv_callSq (mc := 0) (ms := 0) zm_X7_176 zkyX7_setThing (cX_sTz hc hc1 hc2 ha hb ha1 ha2 hb1 hb2 hs hco hk9 h2) rfl rfl (Nat.le_of_ble_eq_true rfl) (by decide) dX7_setPlace_40 ?_
  exact zv_ireturn dX7_setPlace_43 rfl ⟨rfl, rfl⟩
set_option maxRecDepth 20000 in
set_option maxHeartbeats 1000000 in
theorem cX_sTP {G : zh_G} {l : Launch} {f : Nat → va_E} {nn : Nat} {i : Int32} {c : Nat} {hk : Int32} {hv : Int64} {ht : Option Nat} (hc : f c = .inr (0, [.int hk, .long hv, va_rf ht])) (hc1 : zg_B G ≤ c) (hc2 : c < nn) {a b s : Nat} {K : Int32} {thg : Nat → Option Nat} (ha : f a = .inr (4, [.int K, .int (nI s), .ref b])) (hb : f b = .inl (zg_c G 3, s, .inr (.inr (.inr (.inr thg))))) (ha1 : zg_B G ≤ a) (ha2 : a < nn) (hb1 : zg_B G ≤ b) (hb2 : b < nn) (hs : s ≤ 16) (hco : co i (nI s) = false) (hk9 : ¬ hk = -9) (hg : gi hk K = true) {p2 fn2 : Int32} {a2 : Nat} (h2 : ht = some a2) (hx : f a2 = .inr (2, [.int p2, .int fn2])) (hx1 : zg_B G ≤ a2) (hx2 : a2 < nn)  : zc G l yX7_setThing cX7_setThing 3 (some .int) 1 [.ref a, .int i, .ref c] (f, nn) 0 0 (fun o h' => o = some (.int 0) ∧ h' = (va_up f b (.inl (zg_c G 3, s, .inr (.inr (.inr (.inr (va_up thg i.toNatClampNeg (some a2))))))), nn)) := by
  refine zc.of (by decide) (Nat.le_of_ble_eq_true rfl) ?_
  refine zv_iload_n dX7_setThing_0 rfl ?_
  refine zv_if_lt (tgt := 12) dX7_setThing_1 (by decide) (fun c1 => ?_) (fun c1 => ?_)
  · exact absurd c1 (co_f hco).1
  · skip
    refine zv_iload_n dX7_setThing_4 rfl ?_
    refine zv_aload_n dX7_setThing_5 rfl ?_
    refine zv_get (ci := 4) (fs := [.int K, .int (nI s), .ref b]) zf_X7_180_4 ha ha1 ha2 rfl dX7_setThing_6 ?_
    refine zv_icmp_lt (tgt := 14) dX7_setThing_9 (by decide) (fun c9 => ?_) (fun c9 => ?_)
    · skip
      refine zv_aload_n dX7_setThing_14 rfl ?_
      refine zv_get (ci := 0) (fs := [.int hk, .long hv, va_rf ht]) zf_X7_76_0 hc hc1 hc2 rfl dX7_setThing_15 ?_
      refine zv_bipushv (v := (-9)) dX7_setThing_18 (by decide) ?_
      refine zv_icmp_eq (tgt := 39) dX7_setThing_20 (by decide) (fun c20 => ?_) (fun c20 => ?_)
      · exact absurd c20 hk9
      · skip
        refine zv_aload_n dX7_setThing_23 rfl ?_
        refine zv_get (ci := 0) (fs := [.int hk, .long hv, va_rf ht]) zf_X7_76_0 hc hc1 hc2 rfl dX7_setThing_24 ?_
        refine zv_aload_n dX7_setThing_27 rfl ?_
        refine zv_get (ci := 4) (fs := [.int K, .int (nI s), .ref b]) zf_X7_181_4 ha ha1 ha2 rfl dX7_setThing_28 ?_
        refine zv_callSq (mc := 0) (ms := 0) zm_X7_182 zkyX7_goesInto cX_goes rfl rfl (Nat.le_of_ble_eq_true rfl) (by decide) dX7_setThing_31 ?_
        refine zv_if_ne (tgt := 39) dX7_setThing_34 (by decide) (fun c34 => ?_) (fun c34 => ?_)
        · skip
          refine zv_aload_n dX7_setThing_39 rfl ?_
          refine zv_get (ci := 4) (fs := [.int K, .int (nI s), .ref b]) zf_X7_169_4 ha ha1 ha2 rfl dX7_setThing_40 ?_
          refine zv_iload_n dX7_setThing_43 rfl ?_
          refine zv_aload_n dX7_setThing_44 rfl ?_
          refine zv_get (ci := 0) (fs := [.int hk, .long hv, va_rf ht]) zf_X7_51_0 hc hc1 hc2 rfl dX7_setThing_45 ?_
          rw [h2]
          refine zv_aast3 (ci := 2) (vs := [.int p2, .int fn2]) hb hb1 hb2 (co_in hs hco) hx hx1 hx2 rfl (Or.inl (by decide +kernel)) dX7_setThing_48 ?_
          refine zv_iconstv (v := 0) dX7_setThing_49 (by decide) ?_
          exact zv_ireturn dX7_setThing_50 rfl ⟨rfl, rfl⟩
        · exact absurd (by assumption) (zb_n.mpr hg)
    · exact absurd (co_f hco).2 c9
set_option maxRecDepth 20000 in
set_option maxHeartbeats 1000000 in
theorem cX_stTP {G : zh_G} {l : Launch} {f : Nat → va_E} {nn : Nat} {i : Int32} {c : Nat} {hk : Int32} {hv : Int64} {ht : Option Nat} (hc : f c = .inr (0, [.int hk, .long hv, va_rf ht])) (hc1 : zg_B G ≤ c) (hc2 : c < nn) {a b s : Nat} {K : Int32} {thg : Nat → Option Nat} (ha : f a = .inr (4, [.int K, .int (nI s), .ref b])) (hb : f b = .inl (zg_c G 3, s, .inr (.inr (.inr (.inr thg))))) (ha1 : zg_B G ≤ a) (ha2 : a < nn) (hb1 : zg_B G ≤ b) (hb2 : b < nn) (hs : s ≤ 16) (hco : co i (nI s) = false) (hk9 : ¬ hk = -9) (hg : gi hk K = true) {p2 fn2 : Int32} {a2 : Nat} (h2 : ht = some a2) (hx : f a2 = .inr (2, [.int p2, .int fn2])) (hx1 : zg_B G ≤ a2) (hx2 : a2 < nn)  : zc G l yX7_setPlace cX7_setPlace 4 (some .int) 3 [.ref a, .int i, .ref c] (f, nn) 0 0 (fun o h' => o = some (.int 0) ∧ h' = (va_up f b (.inl (zg_c G 3, s, .inr (.inr (.inr (.inr (va_up thg i.toNatClampNeg (some a2))))))), nn)) := by
  refine zc.of (by decide) (Nat.le_of_ble_eq_true rfl) ?_
  refine zv_aload_n dX7_setPlace_0 rfl ?_
  refine zv_ifnonnull (tgt := 6) dX7_setPlace_1 (by decide) ?_
  refine zv_aload_n dX7_setPlace_6 rfl ?_
  refine zv_instNo (ci := 4) (fs := [.int K, .int (nI s), .ref b]) ha ha1 ha2 rfl zk_X7_43 (by decide +kernel) dX7_setPlace_7 ?_
  refine zv_if_eq (tgt := 25) dX7_setPlace_10 (by decide) (fun _ => ?_) (fun c => absurd rfl c)
  refine zv_aload_n dX7_setPlace_25 rfl ?_
  refine zv_instY (ci := 4) (fs := [.int K, .int (nI s), .ref b]) ha ha1 ha2 rfl zk_X7_48 (by decide +kernel) dX7_setPlace_26 ?_
  refine zv_if_eq (tgt := 44) dX7_setPlace_29 (by decide) (fun c => absurd c (by decide)) (fun _ => ?_)
  refine zv_aload_n dX7_setPlace_32 rfl ?_
  refine zv_castY (ci := 4) (fs := [.int K, .int (nI s), .ref b]) ha ha1 ha2 rfl zk_X7_48 (by decide +kernel) dX7_setPlace_33 ?_
  refine zv_astore_n dX7_setPlace_36 (by decide) ?_
  refine zv_aload_n dX7_setPlace_37 rfl ?_
  refine zv_iload_n dX7_setPlace_38 rfl ?_
  refine zv_aload_n dX7_setPlace_39 rfl ?_
  refine zv_callSq (mc := 0) (ms := 0) zm_X7_176 zkyX7_setThing (cX_sTP hc hc1 hc2 ha hb ha1 ha2 hb1 hb2 hs hco hk9 hg h2 hx hx1 hx2) rfl rfl (Nat.le_of_ble_eq_true rfl) (by decide) dX7_setPlace_40 ?_
  exact zv_ireturn dX7_setPlace_43 rfl ⟨rfl, rfl⟩
set_option maxRecDepth 20000 in
set_option maxHeartbeats 1000000 in
theorem cX_sTN {G : zh_G} {l : Launch} {f : Nat → va_E} {nn : Nat} {i : Int32} {c : Nat} {hk : Int32} {hv : Int64} {ht : Option Nat} (hc : f c = .inr (0, [.int hk, .long hv, va_rf ht])) (hc1 : zg_B G ≤ c) (hc2 : c < nn) {a b s : Nat} {K : Int32} {thg : Nat → Option Nat} (ha : f a = .inr (4, [.int K, .int (nI s), .ref b])) (hb : f b = .inl (zg_c G 3, s, .inr (.inr (.inr (.inr thg))))) (ha1 : zg_B G ≤ a) (ha2 : a < nn) (hb1 : zg_B G ≤ b) (hb2 : b < nn) (hs : s ≤ 16) (hco : co i (nI s) = false) (hk9 : ¬ hk = -9) (hg : gi hk K = true) {a2 b2 : Nat} {K2 S2 : Int32} (h2 : ht = some a2) (hx : f a2 = .inr (1, [.int K2, .int S2, .ref b2])) (hx1 : zg_B G ≤ a2) (hx2 : a2 < nn)  : zc G l yX7_setThing cX7_setThing 3 (some .int) 1 [.ref a, .int i, .ref c] (f, nn) 0 0 (fun o h' => o = some (.int 0) ∧ h' = (va_up f b (.inl (zg_c G 3, s, .inr (.inr (.inr (.inr (va_up thg i.toNatClampNeg (some a2))))))), nn)) := by
  refine zc.of (by decide) (Nat.le_of_ble_eq_true rfl) ?_
  refine zv_iload_n dX7_setThing_0 rfl ?_
  refine zv_if_lt (tgt := 12) dX7_setThing_1 (by decide) (fun c1 => ?_) (fun c1 => ?_)
  · exact absurd c1 (co_f hco).1
  · skip
    refine zv_iload_n dX7_setThing_4 rfl ?_
    refine zv_aload_n dX7_setThing_5 rfl ?_
    refine zv_get (ci := 4) (fs := [.int K, .int (nI s), .ref b]) zf_X7_180_4 ha ha1 ha2 rfl dX7_setThing_6 ?_
    refine zv_icmp_lt (tgt := 14) dX7_setThing_9 (by decide) (fun c9 => ?_) (fun c9 => ?_)
    · skip
      refine zv_aload_n dX7_setThing_14 rfl ?_
      refine zv_get (ci := 0) (fs := [.int hk, .long hv, va_rf ht]) zf_X7_76_0 hc hc1 hc2 rfl dX7_setThing_15 ?_
      refine zv_bipushv (v := (-9)) dX7_setThing_18 (by decide) ?_
      refine zv_icmp_eq (tgt := 39) dX7_setThing_20 (by decide) (fun c20 => ?_) (fun c20 => ?_)
      · exact absurd c20 hk9
      · skip
        refine zv_aload_n dX7_setThing_23 rfl ?_
        refine zv_get (ci := 0) (fs := [.int hk, .long hv, va_rf ht]) zf_X7_76_0 hc hc1 hc2 rfl dX7_setThing_24 ?_
        refine zv_aload_n dX7_setThing_27 rfl ?_
        refine zv_get (ci := 4) (fs := [.int K, .int (nI s), .ref b]) zf_X7_181_4 ha ha1 ha2 rfl dX7_setThing_28 ?_
        refine zv_callSq (mc := 0) (ms := 0) zm_X7_182 zkyX7_goesInto cX_goes rfl rfl (Nat.le_of_ble_eq_true rfl) (by decide) dX7_setThing_31 ?_
        refine zv_if_ne (tgt := 39) dX7_setThing_34 (by decide) (fun c34 => ?_) (fun c34 => ?_)
        · skip
          refine zv_aload_n dX7_setThing_39 rfl ?_
          refine zv_get (ci := 4) (fs := [.int K, .int (nI s), .ref b]) zf_X7_169_4 ha ha1 ha2 rfl dX7_setThing_40 ?_
          refine zv_iload_n dX7_setThing_43 rfl ?_
          refine zv_aload_n dX7_setThing_44 rfl ?_
          refine zv_get (ci := 0) (fs := [.int hk, .long hv, va_rf ht]) zf_X7_51_0 hc hc1 hc2 rfl dX7_setThing_45 ?_
          rw [h2]
          refine zv_aast3 (ci := 1) (vs := [.int K2, .int S2, .ref b2]) hb hb1 hb2 (co_in hs hco) hx hx1 hx2 rfl (Or.inl (by decide +kernel)) dX7_setThing_48 ?_
          refine zv_iconstv (v := 0) dX7_setThing_49 (by decide) ?_
          exact zv_ireturn dX7_setThing_50 rfl ⟨rfl, rfl⟩
        · exact absurd (by assumption) (zb_n.mpr hg)
    · exact absurd (co_f hco).2 c9
set_option maxRecDepth 20000 in
set_option maxHeartbeats 1000000 in
theorem cX_stTN {G : zh_G} {l : Launch} {f : Nat → va_E} {nn : Nat} {i : Int32} {c : Nat} {hk : Int32} {hv : Int64} {ht : Option Nat} (hc : f c = .inr (0, [.int hk, .long hv, va_rf ht])) (hc1 : zg_B G ≤ c) (hc2 : c < nn) {a b s : Nat} {K : Int32} {thg : Nat → Option Nat} (ha : f a = .inr (4, [.int K, .int (nI s), .ref b])) (hb : f b = .inl (zg_c G 3, s, .inr (.inr (.inr (.inr thg))))) (ha1 : zg_B G ≤ a) (ha2 : a < nn) (hb1 : zg_B G ≤ b) (hb2 : b < nn) (hs : s ≤ 16) (hco : co i (nI s) = false) (hk9 : ¬ hk = -9) (hg : gi hk K = true) {a2 b2 : Nat} {K2 S2 : Int32} (h2 : ht = some a2) (hx : f a2 = .inr (1, [.int K2, .int S2, .ref b2])) (hx1 : zg_B G ≤ a2) (hx2 : a2 < nn)  : zc G l yX7_setPlace cX7_setPlace 4 (some .int) 3 [.ref a, .int i, .ref c] (f, nn) 0 0 (fun o h' => o = some (.int 0) ∧ h' = (va_up f b (.inl (zg_c G 3, s, .inr (.inr (.inr (.inr (va_up thg i.toNatClampNeg (some a2))))))), nn)) := by
  refine zc.of (by decide) (Nat.le_of_ble_eq_true rfl) ?_
  refine zv_aload_n dX7_setPlace_0 rfl ?_
  refine zv_ifnonnull (tgt := 6) dX7_setPlace_1 (by decide) ?_
  refine zv_aload_n dX7_setPlace_6 rfl ?_
  refine zv_instNo (ci := 4) (fs := [.int K, .int (nI s), .ref b]) ha ha1 ha2 rfl zk_X7_43 (by decide +kernel) dX7_setPlace_7 ?_
  refine zv_if_eq (tgt := 25) dX7_setPlace_10 (by decide) (fun _ => ?_) (fun c => absurd rfl c)
  refine zv_aload_n dX7_setPlace_25 rfl ?_
  refine zv_instY (ci := 4) (fs := [.int K, .int (nI s), .ref b]) ha ha1 ha2 rfl zk_X7_48 (by decide +kernel) dX7_setPlace_26 ?_
  refine zv_if_eq (tgt := 44) dX7_setPlace_29 (by decide) (fun c => absurd c (by decide)) (fun _ => ?_)
  refine zv_aload_n dX7_setPlace_32 rfl ?_
  refine zv_castY (ci := 4) (fs := [.int K, .int (nI s), .ref b]) ha ha1 ha2 rfl zk_X7_48 (by decide +kernel) dX7_setPlace_33 ?_
  refine zv_astore_n dX7_setPlace_36 (by decide) ?_
  refine zv_aload_n dX7_setPlace_37 rfl ?_
  refine zv_iload_n dX7_setPlace_38 rfl ?_
  refine zv_aload_n dX7_setPlace_39 rfl ?_
  refine zv_callSq (mc := 0) (ms := 0) zm_X7_176 zkyX7_setThing (cX_sTN hc hc1 hc2 ha hb ha1 ha2 hb1 hb2 hs hco hk9 hg h2 hx hx1 hx2) rfl rfl (Nat.le_of_ble_eq_true rfl) (by decide) dX7_setPlace_40 ?_
  exact zv_ireturn dX7_setPlace_43 rfl ⟨rfl, rfl⟩
set_option maxRecDepth 20000 in
set_option maxHeartbeats 1000000 in
theorem cX_st0 {G : zh_G} {l : Launch} {f : Nat → va_E} {nn : Nat} {i : Int32} {c : Nat} {hk : Int32} {hv : Int64} {ht : Option Nat} (hc : f c = .inr (0, [.int hk, .long hv, va_rf ht])) (hc1 : zg_B G ≤ c) (hc2 : c < nn)  : zc G l yX7_setPlace cX7_setPlace 4 (some .int) 3 [.null, .int i, .ref c] (f, nn) 0 0 (fun o h' => o = some (.int 1) ∧ h' = (f, nn)) := by
  refine zc.of (by decide) (Nat.le_of_ble_eq_true rfl) ?_
  refine zv_aload_nN dX7_setPlace_0 rfl ?_
  refine zv_ifnonnullN dX7_setPlace_1 ?_
  refine zv_iconstv (v := 1) dX7_setPlace_4 (by decide) ?_
  exact zv_ireturn dX7_setPlace_5 rfl ⟨rfl, rfl⟩
set_option maxRecDepth 20000 in
set_option maxHeartbeats 1000000 in
theorem cX_stP {G : zh_G} {l : Launch} {f : Nat → va_E} {nn : Nat} {i : Int32} {c : Nat} {hk : Int32} {hv : Int64} {ht : Option Nat} (hc : f c = .inr (0, [.int hk, .long hv, va_rf ht])) (hc1 : zg_B G ≤ c) (hc2 : c < nn) {a : Nat} {p fn : Int32} (ha : f a = .inr (2, [.int p, .int fn])) (ha1 : zg_B G ≤ a) (ha2 : a < nn)  : zc G l yX7_setPlace cX7_setPlace 4 (some .int) 3 [.ref a, .int i, .ref c] (f, nn) 0 0 (fun o h' => o = some (.int 2) ∧ h' = (f, nn)) := by
  refine zc.of (by decide) (Nat.le_of_ble_eq_true rfl) ?_
  refine zv_aload_n dX7_setPlace_0 rfl ?_
  refine zv_ifnonnull (tgt := 6) dX7_setPlace_1 (by decide) ?_
  refine zv_aload_n dX7_setPlace_6 rfl ?_
  refine zv_instNo (ci := 2) (fs := [.int p, .int fn]) ha ha1 ha2 rfl zk_X7_43 (by decide +kernel) dX7_setPlace_7 ?_
  refine zv_if_eq (tgt := 25) dX7_setPlace_10 (by decide) (fun _ => ?_) (fun c => absurd rfl c)
  refine zv_aload_n dX7_setPlace_25 rfl ?_
  refine zv_instNo (ci := 2) (fs := [.int p, .int fn]) ha ha1 ha2 rfl zk_X7_48 (by decide +kernel) dX7_setPlace_26 ?_
  refine zv_if_eq (tgt := 44) dX7_setPlace_29 (by decide) (fun _ => ?_) (fun c => absurd rfl c)
  refine zv_iconstv (v := 2) dX7_setPlace_44 (by decide) ?_
  exact zv_ireturn dX7_setPlace_45 rfl ⟨rfl, rfl⟩
