section INS
variable {G : zh_G} {l : Launch} {f : Nat → va_E} {nn : Nat} {σ σ2 : sg} {R P N D : Nat} {ra pa : Nat → Nat}
theorem c_n (h : cP G f nn σ R P ra pa) : zg_B G + 28 ≤ nn := h.1
theorem c_o (h : cP G f nn σ R P ra pa) : f (zg_B G) = .inr (5, cob (zg_B G) σ) := h.2.1
theorem c_r (h : cP G f nn σ R P ra pa) : ∃ rg : Nat → Option Nat, f (zg_B G + 1) = .inl (zg_c G 3, 10, .inr (.inr (.inr (.inr rg)))) ∧ ∀ r : Nat, r < 10 → rg r = adr ra pa (σ.2.2.1 0 r) (σ.2.2.1 1 r) := h.2.2.1
theorem c_g (h : cP G f nn σ R P ra pa) : f (zg_B G + 2) = .inr (0, [.int (s_has σ), .long (s_val σ), va_rf (adr ra pa (σ.1 2) (σ.1 5))]) := h.2.2.2.1
theorem c_h (h : cP G f nn σ R P ra pa) : ∃ (hk : Int32) (hv : Int64) (ht : Option Nat), f (zg_B G + 3) = .inr (0, [.int hk, .long hv, va_rf ht]) := h.2.2.2.2.1
theorem c_s (h : cP G f nn σ R P ra pa) : f (zg_B G + 4) = .inl (zg_c G 4, 12, .inr (.inr (.inr (.inr (fun k => if k < 12 then some (zg_B G + 5 + k) else none))))) := h.2.2.2.2.2.1
theorem c_t (h : cP G f nn σ R P ra pa) : ∀ k : Nat, k < 12 → stpp G f σ k := h.2.2.2.2.2.2.1
theorem c_f (h : cP G f nn σ R P ra pa) : f (zg_B G + 17) = .inl (zg_c G 0, 4, .inl (σ.2.2.1 17)) := h.2.2.2.2.2.2.2.1
theorem c_b {x : Nat} (hx : x < 28) (h : cP G f nn σ R P ra pa) : zg_B G + x < nn := by have := h.1; omega
variable {y : MethodName} {cc : ByteArray} {n : Nat} {r : Option FieldType} {d mc ms0 pc : Nat} {lv : List (Nat × Value)} {st : List Value} {Q : Option Value → zh_H → Prop}
theorem zX_callS {y1 : MethodName} {cc1 : ByteArray} {n1 d1 k idx : Nat} {r1 : Option FieldType} {As rest : List Value} {v0 : Option Value} (hm : zm y.cls idx y1 cc1 n1 r1 k) (hs : Cond.static y1 ∈ zw) (hM : zc G l y1 cc1 n1 r1 d1 As (f, nn) 0 0 (cN G f nn σ2 R P ra pa v0)) (hst : st = As.reverse ++ rest) (hk : As.length = k) (hcat : (rest.map fun v => v.category).sum ≤ 8) (hdd : d1 + 1 ≤ d) (hd : decode cc pc = .ok (.invokestatic idx, 3)) (kk : ∀ f1 : Nat → va_E, cP G f1 nn σ2 R P ra pa → (∀ a : Nat, zg_B G + 18 ≤ a → a < zg_B G + 28 → f1 a = f a) → zv G l y cc n r d mc ms0 (pc + 3) lv (v0.toList ++ rest) (f1, nn) Q) : zv G l y cc n r d mc ms0 pc lv st (f, nn) Q := by
  rw [← Nat.zero_add mc, ← Nat.zero_add ms0]
  refine zv_callS hm hs hM hst hk hcat hdd hd ?_
  rintro v ⟨f1, n1⟩ ⟨rfl, hn, hP, hK⟩
  have hn : n1 = nn := hn
  subst hn
  exact kk f1 hP hK
theorem zX_callV (h : cP G f nn σ R P ra pa) {y1 : MethodName} {cc1 : ByteArray} {n1 d1 k idx : Nat} {r1 : Option FieldType} {As rest : List Value} {v0 : Option Value} (hm : zm y.cls idx y1 cc1 n1 r1 k) (hs : Cond.instanceMethod y1 ∈ zw ∧ Cond.selects y1.cls y1 y1 ∈ zw) (hcn : RX7 = y1.cls) (hM : zc G l y1 cc1 n1 r1 d1 (.ref (zg_B G) :: As) (f, nn) 0 0 (cN G f nn σ2 R P ra pa v0)) (hst : st = As.reverse ++ .ref (zg_B G) :: rest) (hk : As.length = k) (hcat : (rest.map fun v => v.category).sum ≤ 8) (hdd : d1 + 1 ≤ d) (hd : decode cc pc = .ok (.invokevirtual idx, 3)) (kk : ∀ f1 : Nat → va_E, cP G f1 nn σ2 R P ra pa → (∀ a : Nat, zg_B G + 18 ≤ a → a < zg_B G + 28 → f1 a = f a) → zv G l y cc n r d mc ms0 (pc + 3) lv (v0.toList ++ rest) (f1, nn) Q) : zv G l y cc n r d mc ms0 pc lv st (f, nn) Q := by
  rw [← Nat.zero_add mc, ← Nat.zero_add ms0]
  refine zv_callV hm hs (c_o h) (Nat.le_refl _) (show zg_B G < nn from c_b (x := 0) (by decide) h) rfl hcn hM hst hk hcat hdd hd ?_
  rintro v ⟨f1, n1⟩ ⟨rfl, hn, hP, hK⟩
  have hn : n1 = nn := hn
  subst hn
  exact kk f1 hP hK
theorem cP_met (h : cP G f nn σ R P ra pa) {k : Int32} {f2 : Nat → va_E} (hB : f2 (zg_B G) = .inr (5, cob (zg_B G) (s_met1 σ k))) (h17 : f2 (zg_B G + 17) = .inl (zg_c G 0, 4, .inl ((s_met1 σ k).2.2.1 17))) (ho : ∀ a : Nat, ¬ a = zg_B G → ¬ a = zg_B G + 17 → f2 a = f a) : cP G f2 nn (s_met1 σ k) R P ra pa := by
  refine cP_gen h hB ?_ ?_ ?_ (ho _ (by omega) (by omega)) (fun j hj => ?_) h17 (fun a ha => ho a (by omega) (by omega)) rfl rfl rfl rfl
  · obtain ⟨rg, a, b⟩ := c_r h
    exact ⟨rg, by rw [ho _ (by omega) (by omega)]; exact a, b⟩
  · rw [ho _ (by omega) (by omega)]; exact h.2.2.2.1
  · obtain ⟨a, b, c, e⟩ := c_h h
    exact ⟨a, b, c, by rw [ho _ (by omega) (by omega)]; exact e⟩
  · obtain ⟨oc, a, b⟩ := c_t h j hj
    exact ⟨oc, by rw [ho _ (by omega) (by omega)]; exact a, b⟩
set_option maxHeartbeats 1000000 in
theorem x_count (h : cP G f nn σ R P ra pa) {k : Int32} (hk : vp_in k 4) : zc G l yX7_countFault cX7_countFault 2 none 0 [.ref (zg_B G), .int k] (f, nn) 0 0 (cN G f nn (s_met1 σ k) R P ra pa none) := by
  refine zc.of (by decide) (Nat.le_of_ble_eq_true rfl) ?_
  have b0 : zg_B G < nn := c_b (x := 0) (by decide) h
  have b17 : zg_B G + 17 < nn := c_b (by decide) h
  refine zv_aload_n dX7_countFault_0 rfl ?_
  refine zv_iload_n dX7_countFault_1 rfl ?_
  refine zv_put zfw_X7_148_5 (c_o h) (Nat.le_refl _) b0 rfl rfl (by simp [cob]) dX7_countFault_2 ?_
  refine zv_aload_n dX7_countFault_5 rfl ?_
  refine zv_get (ci := 5) (fs := (cob (zg_B G) σ).set 7 (.int k)) zf_X7_32_5 veq (Nat.le_refl _) b0 rfl dX7_countFault_6 ?_
  refine zv_iload_n dX7_countFault_9 rfl ?_
  refine zv_dup2 dX7_countFault_10 rfl rfl ?_
  refine zv_iald (N := 4) (f := σ.2.2.1 17) (by dsimp only; rw [vne (by omega)]; exact c_f h) (by omega) b17 hk dX7_countFault_11 ?_
  refine zv_iconstv (v := 1) dX7_countFault_12 (by decide) ?_
  refine zv_iadd dX7_countFault_13 ?_
  refine zv_iast (N := 4) (f := σ.2.2.1 17) (by dsimp only; rw [vne (by omega)]; exact c_f h) (by omega) b17 hk dX7_countFault_14 ?_
  refine zv_aload_n dX7_countFault_15 rfl ?_
  refine zv_get (ci := 5) (fs := (cob (zg_B G) σ).set 7 (.int k)) zf_X7_32_5 (by dsimp only; rw [vne (by omega)]; exact veq) (Nat.le_refl _) b0 rfl dX7_countFault_16 ?_
  refine zv_iconstv (v := 0) dX7_countFault_19 (by decide) ?_
  refine zv_dup2 dX7_countFault_20 rfl rfl ?_
  refine zv_iald (N := 4) veq (by omega) b17 in4_0 dX7_countFault_21 ?_
  refine zv_iconstv (v := 1) dX7_countFault_22 (by decide) ?_
  refine zv_iadd dX7_countFault_23 ?_
  refine zv_iast (N := 4) veq (by omega) b17 in4_0 dX7_countFault_24 ?_
  refine zv_return dX7_countFault_25 rfl ⟨rfl, rfl, cP_met h ?_ veq (fun a h1 h2 => ?_), fun a h1 h2 => ?_⟩
  · dsimp only
    rw [vne (by omega), vne (by omega), veq]; rfl
  · dsimp only
    rw [vne h2, vne h2, vne h1]
  · dsimp only
    rw [vne (by omega), vne (by omega), vne (by omega)]
theorem le0_4 {k : Int32} (hk : vp_in k 4) : k ≤ 0 ↔ k = 0 := by
  obtain ⟨j, hj, rfl⟩ := vp_in_of hk (by decide)
  rw [show (0 : Int32) = nI 0 from rfl, nI_leI (by omega) (by decide), nI_eq (by omega) (by decide)]; omega
set_option maxHeartbeats 1000000 in
theorem x_ans (h : cP G f nn σ R P ra pa) {k good : Int32} (hk : vp_in k 4) : zc G l yX7_answer cX7_answer 3 (some .int) 1 [.ref (zg_B G), .int k, .int good] (f, nn) 0 0 (cN G f nn (s_ansS σ k) R P ra pa (some (.int (s_ans k good)))) := by
  refine zc.of (by decide) (Nat.le_of_ble_eq_true rfl) ?_
  refine zv_iload_n dX7_answer_0 rfl ?_
  refine zv_if_ne (tgt := 6) dX7_answer_1 (by decide) (fun c1 => ?_) (fun c1 => ?_)
  · refine zv_aload_n dX7_answer_6 rfl ?_
    refine zv_iload_n dX7_answer_7 rfl ?_
    refine zX_callV h zm_X7_117 zkyX7_countFault rfl (x_count h hk) rfl rfl (Nat.le_of_ble_eq_true rfl) (by decide) dX7_answer_8 (fun f1 h1 k1 => ?_)
    refine zv_bipushv (v := -10) dX7_answer_11 (by decide) ?_
    refine zv_iload_n dX7_answer_13 rfl ?_
    refine zv_isub dX7_answer_14 ?_
    have hn : ¬ k ≤ 0 := fun z => c1 ((le0_4 hk).mp z)
    refine zv_ireturn dX7_answer_15 rfl ⟨by unfold s_ans; rw [if_neg hn], rfl, by unfold s_ansS; rw [if_neg hn]; exact h1, k1⟩
  · refine zv_iload_n dX7_answer_4 rfl ?_
    have hn : k ≤ 0 := (le0_4 hk).mpr c1
    refine zv_ireturn dX7_answer_5 rfl ⟨by unfold s_ans; rw [if_pos hn], rfl, by unfold s_ansS; rw [if_pos hn]; exact h, fun _ _ _ => rfl⟩
end INS
