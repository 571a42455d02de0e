theorem zv_more {G : zh_G} {l : Launch} {y : MethodName} {cc : ByteArray} {n : Nat} {r : Option FieldType} {d mc ms0 pc : Nat} {lv : List (Nat × Value)} {st : List Value} {h : zh_H} {Q : Option Value → zh_H → Prop} (mc1 ms1 : Nat) (h1 : mc1 ≤ mc) (h2 : ms1 ≤ ms0) (kk : zv G l y cc n r d mc1 ms1 pc lv st h Q) : zv G l y cc n r d mc ms0 pc lv st h Q := by
  intro p e R s m args below meth c Qf C H locs cells slots ls hW hL h3 h4 hl
  exact kk p e R s m args below meth c Qf C H locs cells slots ls hW hL (by omega) (by omega) hl
set_option maxRecDepth 20000 in
set_option maxHeartbeats 1000000 in
theorem cX_kindsTaken0 {G : zh_G} {l : Launch} {f : Nat → va_E} {nn : Nat}  : zc G l yX7_kindsTaken cX7_kindsTaken 4 (some .int) 1 [.null] (f, nn) 0 0 (fun o h' => o = some (.int 0) ∧ h' = (f, nn)) := by
  refine zc.of (by decide) (Nat.le_of_ble_eq_true rfl) ?_
  refine zv_iconstv (v := 0) dX7_kindsTaken_0 (by decide) ?_
  refine zv_istore_n dX7_kindsTaken_1 (by decide) ?_
  refine zv_aload_nN dX7_kindsTaken_2 rfl ?_
  refine zv_instN dX7_kindsTaken_3 ?_
  refine zv_if_eq (tgt := 45) dX7_kindsTaken_6 (by decide) (fun _ => ?_) (fun c => absurd rfl c)
  refine zv_iload_n dX7_kindsTaken_45 rfl ?_
  exact zv_ireturn dX7_kindsTaken_46 rfl ⟨rfl, rfl⟩
set_option maxRecDepth 20000 in
set_option maxHeartbeats 1000000 in
theorem cX_kindsGiven0 {G : zh_G} {l : Launch} {f : Nat → va_E} {nn : Nat}  : zc G l yX7_kindsGiven cX7_kindsGiven 4 (some .int) 1 [.null] (f, nn) 0 0 (fun o h' => o = some (.int 0) ∧ h' = (f, nn)) := by
  refine zc.of (by decide) (Nat.le_of_ble_eq_true rfl) ?_
  refine zv_iconstv (v := 0) dX7_kindsGiven_0 (by decide) ?_
  refine zv_istore_n dX7_kindsGiven_1 (by decide) ?_
  refine zv_aload_nN dX7_kindsGiven_2 rfl ?_
  refine zv_instN dX7_kindsGiven_3 ?_
  refine zv_if_eq (tgt := 45) dX7_kindsGiven_6 (by decide) (fun _ => ?_) (fun c => absurd rfl c)
  refine zv_iload_n dX7_kindsGiven_45 rfl ?_
  exact zv_ireturn dX7_kindsGiven_46 rfl ⟨rfl, rfl⟩
set_option maxRecDepth 20000 in
set_option maxHeartbeats 1000000 in
theorem cX_kindsTakenP {G : zh_G} {l : Launch} {f : Nat → va_E} {nn : Nat} {a : Nat} {p fn : Int32} (ha : f a = .inr (2, [.int p, .int fn])) (ha1 : zg_B G ≤ a) (ha2 : a < nn)  : zc G l yX7_kindsTaken cX7_kindsTaken 4 (some .int) 1 [.ref a] (f, nn) 0 0 (fun o h' => o = some (.int 0) ∧ h' = (f, nn)) := by
  refine zc.of (by decide) (Nat.le_of_ble_eq_true rfl) ?_
  refine zv_iconstv (v := 0) dX7_kindsTaken_0 (by decide) ?_
  refine zv_istore_n dX7_kindsTaken_1 (by decide) ?_
  refine zv_aload_n dX7_kindsTaken_2 rfl ?_
  refine zv_instNo (ci := 2) (fs := [.int p, .int fn]) ha ha1 ha2 rfl zk_X7_43 (by decide +kernel) dX7_kindsTaken_3 ?_
  refine zv_if_eq (tgt := 45) dX7_kindsTaken_6 (by decide) (fun _ => ?_) (fun c => absurd rfl c)
  refine zv_iload_n dX7_kindsTaken_45 rfl ?_
  exact zv_ireturn dX7_kindsTaken_46 rfl ⟨rfl, rfl⟩
set_option maxRecDepth 20000 in
set_option maxHeartbeats 1000000 in
theorem cX_kindsGivenP {G : zh_G} {l : Launch} {f : Nat → va_E} {nn : Nat} {a : Nat} {p fn : Int32} (ha : f a = .inr (2, [.int p, .int fn])) (ha1 : zg_B G ≤ a) (ha2 : a < nn)  : zc G l yX7_kindsGiven cX7_kindsGiven 4 (some .int) 1 [.ref a] (f, nn) 0 0 (fun o h' => o = some (.int 0) ∧ h' = (f, nn)) := by
  refine zc.of (by decide) (Nat.le_of_ble_eq_true rfl) ?_
  refine zv_iconstv (v := 0) dX7_kindsGiven_0 (by decide) ?_
  refine zv_istore_n dX7_kindsGiven_1 (by decide) ?_
  refine zv_aload_n dX7_kindsGiven_2 rfl ?_
  refine zv_instNo (ci := 2) (fs := [.int p, .int fn]) ha ha1 ha2 rfl zk_X7_43 (by decide +kernel) dX7_kindsGiven_3 ?_
  refine zv_if_eq (tgt := 45) dX7_kindsGiven_6 (by decide) (fun _ => ?_) (fun c => absurd rfl c)
  refine zv_iload_n dX7_kindsGiven_45 rfl ?_
  exact zv_ireturn dX7_kindsGiven_46 rfl ⟨rfl, rfl⟩
set_option maxRecDepth 20000 in
set_option maxHeartbeats 1000000 in
theorem cX_kindsTakenT {G : zh_G} {l : Launch} {f : Nat → va_E} {nn : Nat} {a b s : Nat} {K : Int32} {thg : Nat → Option Nat} (ha : f a = .inr (4, [.int K, .int (nI s), .ref b])) (hb : f b = .inl (zg_c G 3, s, .inr (.inr (.inr (.inr thg))))) (ha1 : zg_B G ≤ a) (ha2 : a < nn) (hb1 : zg_B G ≤ b) (hb2 : b < nn) (hs : s ≤ 16)  : zc G l yX7_kindsTaken cX7_kindsTaken 4 (some .int) 1 [.ref a] (f, nn) 0 0 (fun o h' => o = some (.int 0) ∧ h' = (f, nn)) := by
  refine zc.of (by decide) (Nat.le_of_ble_eq_true rfl) ?_
  refine zv_iconstv (v := 0) dX7_kindsTaken_0 (by decide) ?_
  refine zv_istore_n dX7_kindsTaken_1 (by decide) ?_
  refine zv_aload_n dX7_kindsTaken_2 rfl ?_
  refine zv_instNo (ci := 4) (fs := [.int K, .int (nI s), .ref b]) ha ha1 ha2 rfl zk_X7_43 (by decide +kernel) dX7_kindsTaken_3 ?_
  refine zv_if_eq (tgt := 45) dX7_kindsTaken_6 (by decide) (fun _ => ?_) (fun c => absurd rfl c)
  refine zv_iload_n dX7_kindsTaken_45 rfl ?_
  exact zv_ireturn dX7_kindsTaken_46 rfl ⟨rfl, rfl⟩
set_option maxRecDepth 20000 in
set_option maxHeartbeats 1000000 in
theorem cX_kindsGivenT {G : zh_G} {l : Launch} {f : Nat → va_E} {nn : Nat} {a b s : Nat} {K : Int32} {thg : Nat → Option Nat} (ha : f a = .inr (4, [.int K, .int (nI s), .ref b])) (hb : f b = .inl (zg_c G 3, s, .inr (.inr (.inr (.inr thg))))) (ha1 : zg_B G ≤ a) (ha2 : a < nn) (hb1 : zg_B G ≤ b) (hb2 : b < nn) (hs : s ≤ 16)  : zc G l yX7_kindsGiven cX7_kindsGiven 4 (some .int) 1 [.ref a] (f, nn) 0 0 (fun o h' => o = some (.int 0) ∧ h' = (f, nn)) := by
  refine zc.of (by decide) (Nat.le_of_ble_eq_true rfl) ?_
  refine zv_iconstv (v := 0) dX7_kindsGiven_0 (by decide) ?_
  refine zv_istore_n dX7_kindsGiven_1 (by decide) ?_
  refine zv_aload_n dX7_kindsGiven_2 rfl ?_
  refine zv_instNo (ci := 4) (fs := [.int K, .int (nI s), .ref b]) ha ha1 ha2 rfl zk_X7_43 (by decide +kernel) dX7_kindsGiven_3 ?_
  refine zv_if_eq (tgt := 45) dX7_kindsGiven_6 (by decide) (fun _ => ?_) (fun c => absurd rfl c)
  refine zv_iload_n dX7_kindsGiven_45 rfl ?_
  exact zv_ireturn dX7_kindsGiven_46 rfl ⟨rfl, rfl⟩
set_option maxRecDepth 20000 in
set_option maxHeartbeats 1000000 in
theorem cX_kindsTaken_l {G : zh_G} {l : Launch} {f : Nat → va_E} {nn : Nat} {a b s : Nat} {K : Int32} {num : Nat → Int64} (ha : f a = .inr (1, [.int K, .int (nI s), .ref b])) (hb : f b = .inl (zg_c G 1, s, .inr (.inl num))) (ha1 : zg_B G ≤ a) (ha2 : a < nn) (hb1 : zg_B G ≤ b) (hb2 : b < nn) (hs : s ≤ 16) : ∀ (m j : Nat) (acc : Int32), j + m = 8 → zv G l yX7_kindsTaken cX7_kindsTaken 4 (some .int) 1 0 0 16 [(3, .int (nI j)), (1, .int acc), (0, .ref a), (2, .ref a)] [] (f, nn) (fun o h' => o = some (.int (s_bits (fun j => gi (nI j) K) m j acc)) ∧ h' = (f, nn)) := by
  intro m
  induction m with
  | zero =>
    intro j acc hj
    have hj : j = 8 := by omega
    subst hj
    refine zv_iload_n dX7_kindsTaken_16 rfl ?_
    refine zv_bipushv (v := 8) dX7_kindsTaken_17 (by decide) ?_
    refine zv_icmp_ge (tgt := 45) dX7_kindsTaken_19 (by decide) (fun _ => ?_) (fun c => absurd (by decide) c)
    refine zv_iload_n dX7_kindsTaken_45 rfl ?_
    exact zv_ireturn dX7_kindsTaken_46 rfl ⟨rfl, rfl⟩
  | succ m ih =>
    intro j acc hj
    refine zv_iload_n dX7_kindsTaken_16 rfl ?_
    refine zv_bipushv (v := 8) dX7_kindsTaken_17 (by decide) ?_
    refine zv_icmp_ge (tgt := 45) dX7_kindsTaken_19 (by decide) (fun c19 => ?_) (fun c19 => ?_)
    · exact absurd c19 (by rw [show (8 : Int32) = nI 8 from rfl]; exact nI_ge (by omega) (by decide))
    · skip
      refine zv_iload_n dX7_kindsTaken_22 rfl ?_
      refine zv_aload_n dX7_kindsTaken_23 rfl ?_
      refine zv_get (ci := 1) (fs := [.int K, .int (nI s), .ref b]) zf_X7_164_1 ha ha1 ha2 rfl dX7_kindsTaken_24 ?_
      refine zv_callSq (mc := 0) (ms := 0) zm_X7_182 zkyX7_goesInto cX_goes rfl rfl (Nat.le_of_ble_eq_true rfl) (by decide) dX7_kindsTaken_27 ?_
      refine zv_if_eq (tgt := 39) dX7_kindsTaken_30 (by decide) (fun c30 => ?_) (fun c30 => ?_)
      · skip
        refine zv_iinc dX7_kindsTaken_39 rfl (by decide) ?_
        refine zv_goto (tgt := 16) dX7_kindsTaken_42 (by decide) ?_
        have hp : gi (nI j) K = false := zb_0.mp c30
        refine zv_lv [(3, .int (nI (j + 1))), (1, .int acc), (0, .ref a), (2, .ref a)] (by simp [zs1, Value.category, nI_succ, show ((1 : Fin 4) : Nat) = 1 from rfl]) ?_
        have z := ih (j + 1) acc (by omega)
        rw [show s_bits (fun j => gi (nI j) K) (m + 1) j acc = s_bits (fun j => gi (nI j) K) m (j + 1) acc from by show s_bits _ m (j + 1) (acc ||| (if _ = true then (1 : Int32) <<< (nI j &&& 31) else 0)) = _; simp [hp]]
        exact z
      · skip
        refine zv_iload_n dX7_kindsTaken_33 rfl ?_
        refine zv_iconstv (v := 1) dX7_kindsTaken_34 (by decide) ?_
        refine zv_iload_n dX7_kindsTaken_35 rfl ?_
        refine zv_ishl dX7_kindsTaken_36 ?_
        refine zv_ior dX7_kindsTaken_37 ?_
        refine zv_istore_n dX7_kindsTaken_38 (by decide) ?_
        refine zv_iinc dX7_kindsTaken_39 rfl (by decide) ?_
        refine zv_goto (tgt := 16) dX7_kindsTaken_42 (by decide) ?_
        have hp : gi (nI j) K = true := zb_n.mp c30
        refine zv_lv [(3, .int (nI (j + 1))), (1, .int (acc ||| (1 : Int32) <<< (nI j &&& 31))), (0, .ref a), (2, .ref a)] (by simp [zs1, Value.category, nI_succ, show ((1 : Fin 4) : Nat) = 1 from rfl]) ?_
        have z := ih (j + 1) (acc ||| (1 : Int32) <<< (nI j &&& 31)) (by omega)
        rw [show s_bits (fun j => gi (nI j) K) (m + 1) j acc = s_bits (fun j => gi (nI j) K) m (j + 1) (acc ||| (1 : Int32) <<< (nI j &&& 31)) from by show s_bits _ m (j + 1) (acc ||| (if _ = true then (1 : Int32) <<< (nI j &&& 31) else 0)) = _; simp [hp]]
        exact z
set_option maxRecDepth 20000 in
set_option maxHeartbeats 1000000 in
theorem cX_kindsTakenN {G : zh_G} {l : Launch} {f : Nat → va_E} {nn : Nat} {a b s : Nat} {K : Int32} {num : Nat → Int64} (ha : f a = .inr (1, [.int K, .int (nI s), .ref b])) (hb : f b = .inl (zg_c G 1, s, .inr (.inl num))) (ha1 : zg_B G ≤ a) (ha2 : a < nn) (hb1 : zg_B G ≤ b) (hb2 : b < nn) (hs : s ≤ 16)  : zc G l yX7_kindsTaken cX7_kindsTaken 4 (some .int) 1 [.ref a] (f, nn) 0 0 (fun o h' => o = some (.int (s_bits (fun j => gi (nI j) K) 8 0 0)) ∧ h' = (f, nn)) := by
  refine zc.of (by decide) (Nat.le_of_ble_eq_true rfl) ?_
  refine zv_iconstv (v := 0) dX7_kindsTaken_0 (by decide) ?_
  refine zv_istore_n dX7_kindsTaken_1 (by decide) ?_
  refine zv_aload_n dX7_kindsTaken_2 rfl ?_
  refine zv_instY (ci := 1) (fs := [.int K, .int (nI s), .ref b]) ha ha1 ha2 rfl zk_X7_43 (by decide +kernel) dX7_kindsTaken_3 ?_
  refine zv_if_eq (tgt := 45) dX7_kindsTaken_6 (by decide) (fun c => absurd c (by decide)) (fun _ => ?_)
  refine zv_aload_n dX7_kindsTaken_9 rfl ?_
  refine zv_castY (ci := 1) (fs := [.int K, .int (nI s), .ref b]) ha ha1 ha2 rfl zk_X7_43 (by decide +kernel) dX7_kindsTaken_10 ?_
  refine zv_astore_n dX7_kindsTaken_13 (by decide) ?_
  refine zv_iconstv (v := 0) dX7_kindsTaken_14 (by decide) ?_
  refine zv_istore_n dX7_kindsTaken_15 (by decide) ?_
  refine zv_lv [(3, .int (nI 0)), (1, .int 0), (0, .ref a), (2, .ref a)] (by simp [zs1, lv_args, Value.category, nI_0, show ((1 : Fin 4) : Nat) = 1 from rfl, show ((2 : Fin 4) : Nat) = 2 from rfl, show ((3 : Fin 4) : Nat) = 3 from rfl]) ?_
  exact cX_kindsTaken_l ha hb ha1 ha2 hb1 hb2 hs 8 0 0 rfl
set_option maxRecDepth 20000 in
set_option maxHeartbeats 1000000 in
theorem cX_kindsGiven_l {G : zh_G} {l : Launch} {f : Nat → va_E} {nn : Nat} {a b s : Nat} {K : Int32} {num : Nat → Int64} (ha : f a = .inr (1, [.int K, .int (nI s), .ref b])) (hb : f b = .inl (zg_c G 1, s, .inr (.inl num))) (ha1 : zg_B G ≤ a) (ha2 : a < nn) (hb1 : zg_B G ≤ b) (hb2 : b < nn) (hs : s ≤ 16) : ∀ (m j : Nat) (acc : Int32), j + m = 8 → zv G l yX7_kindsGiven cX7_kindsGiven 4 (some .int) 1 0 0 16 [(3, .int (nI j)), (1, .int acc), (0, .ref a), (2, .ref a)] [] (f, nn) (fun o h' => o = some (.int (s_bits (fun j => gi K (nI j)) m j acc)) ∧ h' = (f, nn)) := by
  intro m
  induction m with
  | zero =>
    intro j acc hj
    have hj : j = 8 := by omega
    subst hj
    refine zv_iload_n dX7_kindsGiven_16 rfl ?_
    refine zv_bipushv (v := 8) dX7_kindsGiven_17 (by decide) ?_
    refine zv_icmp_ge (tgt := 45) dX7_kindsGiven_19 (by decide) (fun _ => ?_) (fun c => absurd (by decide) c)
    refine zv_iload_n dX7_kindsGiven_45 rfl ?_
    exact zv_ireturn dX7_kindsGiven_46 rfl ⟨rfl, rfl⟩
  | succ m ih =>
    intro j acc hj
    refine zv_iload_n dX7_kindsGiven_16 rfl ?_
    refine zv_bipushv (v := 8) dX7_kindsGiven_17 (by decide) ?_
    refine zv_icmp_ge (tgt := 45) dX7_kindsGiven_19 (by decide) (fun c19 => ?_) (fun c19 => ?_)
    · exact absurd c19 (by rw [show (8 : Int32) = nI 8 from rfl]; exact nI_ge (by omega) (by decide))
    · skip
      refine zv_aload_n dX7_kindsGiven_22 rfl ?_
      refine zv_get (ci := 1) (fs := [.int K, .int (nI s), .ref b]) zf_X7_164_1 ha ha1 ha2 rfl dX7_kindsGiven_23 ?_
      refine zv_iload_n dX7_kindsGiven_26 rfl ?_
      refine zv_callSq (mc := 0) (ms := 0) zm_X7_182 zkyX7_goesInto cX_goes rfl rfl (Nat.le_of_ble_eq_true rfl) (by decide) dX7_kindsGiven_27 ?_
      refine zv_if_eq (tgt := 39) dX7_kindsGiven_30 (by decide) (fun c30 => ?_) (fun c30 => ?_)
      · skip
        refine zv_iinc dX7_kindsGiven_39 rfl (by decide) ?_
        refine zv_goto (tgt := 16) dX7_kindsGiven_42 (by decide) ?_
        have hp : gi K (nI j) = false := zb_0.mp c30
        refine zv_lv [(3, .int (nI (j + 1))), (1, .int acc), (0, .ref a), (2, .ref a)] (by simp [zs1, Value.category, nI_succ, show ((1 : Fin 4) : Nat) = 1 from rfl]) ?_
        have z := ih (j + 1) acc (by omega)
        rw [show s_bits (fun j => gi K (nI j)) (m + 1) j acc = s_bits (fun j => gi K (nI j)) m (j + 1) acc from by show s_bits _ m (j + 1) (acc ||| (if _ = true then (1 : Int32) <<< (nI j &&& 31) else 0)) = _; simp [hp]]
        exact z
      · skip
        refine zv_iload_n dX7_kindsGiven_33 rfl ?_
        refine zv_iconstv (v := 1) dX7_kindsGiven_34 (by decide) ?_
        refine zv_iload_n dX7_kindsGiven_35 rfl ?_
        refine zv_ishl dX7_kindsGiven_36 ?_
        refine zv_ior dX7_kindsGiven_37 ?_
        refine zv_istore_n dX7_kindsGiven_38 (by decide) ?_
        refine zv_iinc dX7_kindsGiven_39 rfl (by decide) ?_
        refine zv_goto (tgt := 16) dX7_kindsGiven_42 (by decide) ?_
        have hp : gi K (nI j) = true := zb_n.mp c30
        refine zv_lv [(3, .int (nI (j + 1))), (1, .int (acc ||| (1 : Int32) <<< (nI j &&& 31))), (0, .ref a), (2, .ref a)] (by simp [zs1, Value.category, nI_succ, show ((1 : Fin 4) : Nat) = 1 from rfl]) ?_
        have z := ih (j + 1) (acc ||| (1 : Int32) <<< (nI j &&& 31)) (by omega)
        rw [show s_bits (fun j => gi K (nI j)) (m + 1) j acc = s_bits (fun j => gi K (nI j)) m (j + 1) (acc ||| (1 : Int32) <<< (nI j &&& 31)) from by show s_bits _ m (j + 1) (acc ||| (if _ = true then (1 : Int32) <<< (nI j &&& 31) else 0)) = _; simp [hp]]
        exact z
set_option maxRecDepth 20000 in
set_option maxHeartbeats 1000000 in
theorem cX_kindsGivenN {G : zh_G} {l : Launch} {f : Nat → va_E} {nn : Nat} {a b s : Nat} {K : Int32} {num : Nat → Int64} (ha : f a = .inr (1, [.int K, .int (nI s), .ref b])) (hb : f b = .inl (zg_c G 1, s, .inr (.inl num))) (ha1 : zg_B G ≤ a) (ha2 : a < nn) (hb1 : zg_B G ≤ b) (hb2 : b < nn) (hs : s ≤ 16)  : zc G l yX7_kindsGiven cX7_kindsGiven 4 (some .int) 1 [.ref a] (f, nn) 0 0 (fun o h' => o = some (.int (s_bits (fun j => gi K (nI j)) 8 0 0)) ∧ h' = (f, nn)) := by
  refine zc.of (by decide) (Nat.le_of_ble_eq_true rfl) ?_
  refine zv_iconstv (v := 0) dX7_kindsGiven_0 (by decide) ?_
  refine zv_istore_n dX7_kindsGiven_1 (by decide) ?_
  refine zv_aload_n dX7_kindsGiven_2 rfl ?_
  refine zv_instY (ci := 1) (fs := [.int K, .int (nI s), .ref b]) ha ha1 ha2 rfl zk_X7_43 (by decide +kernel) dX7_kindsGiven_3 ?_
  refine zv_if_eq (tgt := 45) dX7_kindsGiven_6 (by decide) (fun c => absurd c (by decide)) (fun _ => ?_)
  refine zv_aload_n dX7_kindsGiven_9 rfl ?_
  refine zv_castY (ci := 1) (fs := [.int K, .int (nI s), .ref b]) ha ha1 ha2 rfl zk_X7_43 (by decide +kernel) dX7_kindsGiven_10 ?_
  refine zv_astore_n dX7_kindsGiven_13 (by decide) ?_
  refine zv_iconstv (v := 0) dX7_kindsGiven_14 (by decide) ?_
  refine zv_istore_n dX7_kindsGiven_15 (by decide) ?_
  refine zv_lv [(3, .int (nI 0)), (1, .int 0), (0, .ref a), (2, .ref a)] (by simp [zs1, lv_args, Value.category, nI_0, show ((1 : Fin 4) : Nat) = 1 from rfl, show ((2 : Fin 4) : Nat) = 2 from rfl, show ((3 : Fin 4) : Nat) = 3 from rfl]) ?_
  exact cX_kindsGiven_l ha hb ha1 ha2 hb1 hb2 hs 8 0 0 rfl
set_option maxRecDepth 20000 in
set_option maxHeartbeats 1000000 in
theorem cX_become {G : zh_G} {l : Launch} {f : Nat → va_E} {nn : Nat} {c : Nat} {v0 v1 v2 v3 v4 v5 : Value} (hc : f c = .inr (3, [v0, v1, v2, v3, v4, v5])) (hc1 : zg_B G ≤ c) (hc2 : c < nn) {op ra1 i1 rb1 k1 : Int32} : zc G l yX4_become cX4_become 6 none 0 [.ref c, .int op, .int ra1, .int i1, .int rb1, .int k1] (f, nn) 0 0 (fun o h' => o = none ∧ h' = (va_up f c (.inr (3, [.int op, .int ra1, .int i1, .int rb1, .int k1, .int (-9)])), nn)) := by
  refine zc.of (by decide) (Nat.le_of_ble_eq_true rfl) ?_
  refine zv_aload_n dX4_become_0 rfl ?_
  refine zv_iload_n dX4_become_1 rfl ?_
  refine zv_put (fs := [v0, v1, v2, v3, v4, v5]) zfw_X4_9_3 (by simp [va_up, hc]) hc1 hc2 rfl rfl (by simp) dX4_become_2 ?_
  refine zv_aload_n dX4_become_5 rfl ?_
  refine zv_iload_n dX4_become_6 rfl ?_
  refine zv_put (fs := [.int op, v1, v2, v3, v4, v5]) zfw_X4_15_3 (by simp [va_up, hc]) hc1 hc2 rfl rfl (by simp) dX4_become_7 ?_
  refine zv_aload_n dX4_become_10 rfl ?_
  refine zv_iload_n dX4_become_11 rfl ?_
  refine zv_put (fs := [.int op, .int ra1, v2, v3, v4, v5]) zfw_X4_18_3 (by simp [va_up, hc]) hc1 hc2 rfl rfl (by simp) dX4_become_12 ?_
  refine zv_aload_n dX4_become_15 rfl ?_
  refine zv_iload dX4_become_16 rfl ?_
  refine zv_put (fs := [.int op, .int ra1, .int i1, v3, v4, v5]) zfw_X4_21_3 (by simp [va_up, hc]) hc1 hc2 rfl rfl (by simp) dX4_become_18 ?_
  refine zv_aload_n dX4_become_21 rfl ?_
  refine zv_iload dX4_become_22 rfl ?_
  refine zv_put (fs := [.int op, .int ra1, .int i1, .int rb1, v4, v5]) zfw_X4_24_3 (by simp [va_up, hc]) hc1 hc2 rfl rfl (by simp) dX4_become_24 ?_
  refine zv_aload_n dX4_become_27 rfl ?_
  refine zv_bipushv (v := (-9)) dX4_become_28 (by decide) ?_
  refine zv_put (fs := [.int op, .int ra1, .int i1, .int rb1, .int k1, v5]) zfw_X4_27_3 (by simp [va_up, hc]) hc1 hc2 rfl rfl (by simp) dX4_become_30 ?_
  exact zv_return dX4_become_33 rfl ⟨rfl, by simp [bx_uu]⟩
set_option maxRecDepth 20000 in
set_option maxHeartbeats 1000000 in
theorem cX_iThing {G : zh_G} {l : Launch} {h : zh_H} {a : Nat} : zc G l yX5_init cX5_init 1 none 1 [.ref a] h 0 0 (fun o h' => o = none ∧ h' = h) := by
  refine zc.of (by decide) (Nat.le_of_ble_eq_true rfl) ?_
  refine zv_aload_n dX5_init_0 rfl ?_
  refine zv_objInit zo_X5_1 zo_i zo_c (Nat.le_of_ble_eq_true rfl) (by decide) dX5_init_1 ?_
  exact zv_return dX5_init_4 rfl ⟨rfl, rfl⟩
set_option maxRecDepth 20000 in
set_option maxHeartbeats 1000000 in
theorem cX_iRow1 {G : zh_G} {l : Launch} {f : Nat → va_E} {nn : Nat} {c : Nat} (hc : f c = .inr (1, [.int 0, .int 0, .null])) (hc1 : zg_B G ≤ c) (hc2 : c < nn) {k1 n1 : Int32} : zc G l yX3_init cX3_init 3 none 2 [.ref c, .int k1, .int n1] (f, nn) 0 0 (fun o h' => o = none ∧ h' = (va_up f c (.inr (1, [.int k1, .int n1, .null])), nn)) := by
  refine zc.of (by decide) (Nat.le_of_ble_eq_true rfl) ?_
  refine zv_aload_n dX3_init_0 rfl ?_
  refine zv_callIq (mc := 0) (ms := 0) zm_X3_1 zkyX5_init cX_iThing rfl rfl (Nat.le_of_ble_eq_true rfl) (by decide) dX3_init_1 ?_
  refine zv_aload_n dX3_init_4 rfl ?_
  refine zv_iload_n dX3_init_5 rfl ?_
  refine zv_putF (fs := [.int 0, .int 0, .null]) zfw_X3_7_1 rfl (by simp [va_up, hc]) hc1 hc2 rfl rfl (by simp) dX3_init_6 ?_
  refine zv_aload_n dX3_init_9 rfl ?_
  refine zv_iload_n dX3_init_10 rfl ?_
  refine zv_putF (fs := [.int k1, .int 0, .null]) zfw_X3_13_1 rfl (by simp [va_up, hc]) hc1 hc2 rfl rfl (by simp) dX3_init_11 ?_
  exact zv_return dX3_init_14 rfl ⟨rfl, by simp [bx_uu]⟩
set_option maxRecDepth 20000 in
set_option maxHeartbeats 1000000 in
theorem cX_iRow4 {G : zh_G} {l : Launch} {f : Nat → va_E} {nn : Nat} {c : Nat} (hc : f c = .inr (4, [.int 0, .int 0, .null])) (hc1 : zg_B G ≤ c) (hc2 : c < nn) {k1 n1 : Int32} : zc G l yX3_init cX3_init 3 none 2 [.ref c, .int k1, .int n1] (f, nn) 0 0 (fun o h' => o = none ∧ h' = (va_up f c (.inr (4, [.int k1, .int n1, .null])), nn)) := by
  refine zc.of (by decide) (Nat.le_of_ble_eq_true rfl) ?_
  refine zv_aload_n dX3_init_0 rfl ?_
  refine zv_callIq (mc := 0) (ms := 0) zm_X3_1 zkyX5_init cX_iThing rfl rfl (Nat.le_of_ble_eq_true rfl) (by decide) dX3_init_1 ?_
  refine zv_aload_n dX3_init_4 rfl ?_
  refine zv_iload_n dX3_init_5 rfl ?_
  refine zv_putF (fs := [.int 0, .int 0, .null]) zfw_X3_7_4 rfl (by simp [va_up, hc]) hc1 hc2 rfl rfl (by simp) dX3_init_6 ?_
  refine zv_aload_n dX3_init_9 rfl ?_
  refine zv_iload_n dX3_init_10 rfl ?_
  refine zv_putF (fs := [.int k1, .int 0, .null]) zfw_X3_13_4 rfl (by simp [va_up, hc]) hc1 hc2 rfl rfl (by simp) dX3_init_11 ?_
  exact zv_return dX3_init_14 rfl ⟨rfl, by simp [bx_uu]⟩
set_option maxRecDepth 20000 in
set_option maxHeartbeats 1000000 in
theorem cX_iX1 {G : zh_G} {l : Launch} {f : Nat → va_E} {nn : Nat} {c s : Nat} (hs : s ≤ 16) (hc : f c = .inr (1, [.int 0, .int 0, .null])) (hc1 : zg_B G ≤ c) (hc2 : c < nn) {k1 : Int32} : zc G l yX1_init cX1_init 3 none 3 [.ref c, .int k1, .int (nI s)] (f, nn) 1 16 (fun o h' => o = none ∧ h' = (va_up (va_up f nn (.inl (zg_c G 1, s, .inr (.inl (fun _ => 0))))) c (.inr (1, [.int k1, .int (nI s), .ref nn])), nn + 1)) := by
  refine zc.of (by decide) (Nat.le_of_ble_eq_true rfl) ?_
  refine zv_more (0 + (0 + 1)) (0 + (0 + s)) (by omega) (by omega) ?_
  refine zv_aload_n dX1_init_0 rfl ?_
  refine zv_iload_n dX1_init_1 rfl ?_
  refine zv_iload_n dX1_init_2 rfl ?_
  refine zv_callIq (mc := 0 + 1) (ms := 0 + s) zm_X1_1 zkyX3_init (cX_iRow1 hc hc1 hc2) rfl rfl (Nat.le_of_ble_eq_true rfl) (by decide) dX1_init_3 ?_
  refine zv_aload_n dX1_init_6 rfl ?_
  refine zv_iload_n dX1_init_7 rfl ?_
  refine zv_newJ (N := s) (mc := 0) (ms := 0) za_long (nI_pos (by omega)) (nI_clamp (by omega)) (by omega) dX1_init_8 ?_
  refine zv_putF (fs := [.int k1, .int (nI s), .null]) zfw_X1_7_1 rfl (by simp [va_up, hc, Nat.ne_of_lt hc2]) hc1 (Nat.lt_succ_of_lt hc2) rfl rfl (by simp) dX1_init_10 ?_
  exact zv_return dX1_init_13 rfl ⟨rfl, by refine Prod.ext ?_ rfl; funext x; simp only [va_up]; by_cases e1 : x = c <;> by_cases e2 : x = nn <;> simp_all⟩
set_option maxRecDepth 20000 in
set_option maxHeartbeats 1000000 in
theorem cX_iX6 {G : zh_G} {l : Launch} {f : Nat → va_E} {nn : Nat} {c s : Nat} (hs : s ≤ 16) (hc : f c = .inr (4, [.int 0, .int 0, .null])) (hc1 : zg_B G ≤ c) (hc2 : c < nn) {k1 : Int32} : zc G l yX6_init cX6_init 3 none 3 [.ref c, .int k1, .int (nI s)] (f, nn) 1 16 (fun o h' => o = none ∧ h' = (va_up (va_up f nn (.inl (zg_c G 3, s, .inr (.inr (.inr (.inr (fun _ => none))))))) c (.inr (4, [.int k1, .int (nI s), .ref nn])), nn + 1)) := by
  refine zc.of (by decide) (Nat.le_of_ble_eq_true rfl) ?_
  refine zv_more (0 + (0 + 1)) (0 + (0 + s)) (by omega) (by omega) ?_
  refine zv_aload_n dX6_init_0 rfl ?_
  refine zv_iload_n dX6_init_1 rfl ?_
  refine zv_iload_n dX6_init_2 rfl ?_
  refine zv_callIq (mc := 0 + 1) (ms := 0 + s) zm_X6_1 zkyX3_init (cX_iRow4 hc hc1 hc2) rfl rfl (Nat.le_of_ble_eq_true rfl) (by decide) dX6_init_3 ?_
  refine zv_aload_n dX6_init_6 rfl ?_
  refine zv_iload_n dX6_init_7 rfl ?_
  refine zv_newT (N := s) (mc := 0) (ms := 0) zk_X6_7 (nI_pos (by omega)) (nI_clamp (by omega)) (by omega) dX6_init_8 ?_
  refine zv_putF (fs := [.int k1, .int (nI s), .null]) zfw_X6_9_4 rfl (by simp [va_up, hc, Nat.ne_of_lt hc2]) hc1 (Nat.lt_succ_of_lt hc2) rfl rfl (by simp) dX6_init_11 ?_
  exact zv_return dX6_init_14 rfl ⟨rfl, by refine Prod.ext ?_ rfl; funext x; simp only [va_up]; by_cases e1 : x = c <;> by_cases e2 : x = nn <;> simp_all⟩
set_option maxRecDepth 20000 in
set_option maxHeartbeats 1000000 in
theorem cX_iProbe {G : zh_G} {l : Launch} {f : Nat → va_E} {nn : Nat} {c : Nat} (hc : f c = .inr (2, [.int 0, .int 0])) (hc1 : zg_B G ≤ c) (hc2 : c < nn) {p1 b1 : Int32} (hb : narrow .boolean (.int b1) = .int b1) (hb2 : fits .boolean (.int b1) = true) : zc G l yX2_init cX2_init 3 none 2 [.ref c, .int p1, .int b1] (f, nn) 0 0 (fun o h' => o = none ∧ h' = (va_up f c (.inr (2, [.int p1, .int b1])), nn)) := by
  refine zc.of (by decide) (Nat.le_of_ble_eq_true rfl) ?_
  refine zv_aload_n dX2_init_0 rfl ?_
  refine zv_callIq (mc := 0) (ms := 0) zm_X2_1 zkyX5_init cX_iThing rfl rfl (Nat.le_of_ble_eq_true rfl) (by decide) dX2_init_1 ?_
  refine zv_aload_n dX2_init_4 rfl ?_
  refine zv_iload_n dX2_init_5 rfl ?_
  refine zv_putF (fs := [.int 0, .int 0]) zfw_X2_7_2 rfl (by simp [va_up, hc]) hc1 hc2 rfl rfl (by simp) dX2_init_6 ?_
  refine zv_aload_n dX2_init_9 rfl ?_
  refine zv_iload_n dX2_init_10 rfl ?_
  refine zv_putF (fs := [.int p1, .int 0]) zfw_X2_13_2 rfl (by simp [va_up, hc]) hc1 hc2 hb hb2 (by simp) dX2_init_11 ?_
  exact zv_return dX2_init_14 rfl ⟨rfl, by simp [bx_uu]⟩
set_option maxRecDepth 20000 in
set_option maxHeartbeats 1000000 in
theorem cX_iHeld {G : zh_G} {l : Launch} {f : Nat → va_E} {nn : Nat} {c : Nat} (hc : f c = .inr (0, [.int 0, .long 0, .null])) (hc1 : zg_B G ≤ c) (hc2 : c < nn) : zc G l yX0_init cX0_init 1 none 1 [.ref c] (f, nn) 0 0 (fun o h' => o = none ∧ h' = (va_up f c (.inr (0, [.int (-9), .long 0, .null])), nn)) := by
  refine zc.of (by decide) (Nat.le_of_ble_eq_true rfl) ?_
  refine zv_aload_n dX0_init_0 rfl ?_
  refine zv_objInit zo_X0_3 zo_i zo_c (Nat.le_of_ble_eq_true rfl) (by decide) dX0_init_1 ?_
  refine zv_aload_n dX0_init_4 rfl ?_
  refine zv_bipushv (v := (-9)) dX0_init_5 (by decide) ?_
  refine zv_put (fs := [.int 0, .long 0, .null]) zfw_X0_9_0 (by simp [va_up, hc]) hc1 hc2 rfl rfl (by simp) dX0_init_7 ?_
  exact zv_return dX0_init_10 rfl ⟨rfl, rfl⟩
set_option maxRecDepth 20000 in
set_option maxHeartbeats 1000000 in
theorem cX_iStep {G : zh_G} {l : Launch} {h : zh_H} {a : Nat} : zc G l yX4_init cX4_init 1 none 1 [.ref a] h 0 0 (fun o h' => o = none ∧ h' = h) := by
  refine zc.of (by decide) (Nat.le_of_ble_eq_true rfl) ?_
  refine zv_aload_n dX4_init_0 rfl ?_
  refine zv_objInit zo_X4_3 zo_i zo_c (Nat.le_of_ble_eq_true rfl) (by decide) dX4_init_1 ?_
  exact zv_return dX4_init_4 rfl ⟨rfl, rfl⟩
