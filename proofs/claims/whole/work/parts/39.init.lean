section INI
variable {G : zh_G} {l : Launch} {f f2 : Nat → va_E} {nn : Nat} {σ σ2 : sg} {R P N D : Nat} {ra pa : Nat → Nat}
/-- the class's cells while its constructor makes the steps: k of them stand -/
def ixk (G : zh_G) (f : Nat → va_E) (k : Nat) (fc : Value) : Prop := f (zg_B G) = .inr (5, [.ref (zg_B G + 1), .ref (zg_B G + 2), .ref (zg_B G + 3), .ref (zg_B G + 4), fc, .int 0, .int 0, .int 0]) ∧ f (zg_B G + 1) = .inl (zg_c G 3, 10, .inr (.inr (.inr (.inr (fun _ => none))))) ∧ f (zg_B G + 2) = .inr (0, [.int (-9), .long 0, .null]) ∧ f (zg_B G + 3) = .inr (0, [.int (-9), .long 0, .null]) ∧ f (zg_B G + 4) = .inl (zg_c G 4, 12, .inr (.inr (.inr (.inr (fun j => if j < k then some (zg_B G + 5 + j) else none))))) ∧ ∀ j : Nat, j < k → f (zg_B G + 5 + j) = .inr (3, [.int 0, .int 0, .int 0, .int 0, .int 0, .int 0])
theorem ixk_put {fc : Value} {k : Nat} (hk : k < 12) (h : ixk G f k fc) : ixk G (va_up (va_up f (zg_B G + 5 + k) (.inr (3, [.int 0, .int 0, .int 0, .int 0, .int 0, .int 0]))) (zg_B G + 4) (.inl (zg_c G 4, 12, .inr (.inr (.inr (.inr (va_up (fun j => if j < k then some (zg_B G + 5 + j) else none) k (some (zg_B G + 5 + k)))))))) ) (k + 1) fc := by
  obtain ⟨h0, h1, h2, h3, h4, h5⟩ := h
  refine ⟨(vne (by omega)).trans ((vne (by omega)).trans h0), (vne (by omega)).trans ((vne (by omega)).trans h1), (vne (by omega)).trans ((vne (by omega)).trans h2), (vne (by omega)).trans ((vne (by omega)).trans h3), ?_, fun j hj => ?_⟩
  · refine veq.trans ?_
    have e : va_up (fun j => if j < k then some (zg_B G + 5 + j) else none) k (some (zg_B G + 5 + k)) = fun j => if j < k + 1 then some (zg_B G + 5 + j) else none := by
      funext j
      unfold va_up
      by_cases hj : j = k
      · rw [if_pos hj, if_pos (by omega), hj]
      · rw [if_neg hj]
        dsimp only
        by_cases hj2 : j < k
        · rw [if_pos hj2, if_pos (by omega)]
        · rw [if_neg hj2, if_neg (by omega)]
    rw [e]
  · by_cases hjk : j = k
    · subst hjk; exact (vne (by omega)).trans veq
    · exact (vne (by omega)).trans ((vne (by omega)).trans (h5 j (by omega)))
def iX (G : zh_G) (f : Nat → va_E) : Prop := ixk G f 12 (.ref (zg_B G + 17)) ∧ f (zg_B G + 17) = .inl (zg_c G 0, 4, .inl (fun _ => 0))
set_option maxRecDepth 20000 in
set_option maxHeartbeats 1000000 in
theorem xX_init_l : ∀ (m k : Nat) (f : Nat → va_E), k + m = 12 → ixk G f k .null → zv G l yX7_init cX7_init 2 none 2 (m + 1) (6 * m + 4) 46 [(1, .int (nI k)), (0, .ref (zg_B G))] [] (f, zg_B G + 5 + k) (fun o h' => o = none ∧ h'.2 = zg_B G + 18 ∧ iX G h'.1) := by
  intro m
  induction m with
  | zero =>
    intro k f hk h
    obtain ⟨h0, h1, h2, h3, h4, h5⟩ := h
    have ek : k = 12 := by omega
    subst ek
    refine zv_iload_n dX7_init_46 rfl ?_
    refine zv_bipushv (v := 12) dX7_init_47 (by decide) ?_
    refine zv_icmp_ge (tgt := 71) dX7_init_49 (by decide) (fun _ => ?_) (fun c => absurd (by decide) c)
    refine zv_aload_n dX7_init_71 rfl ?_
    refine zv_iconstv (v := 4) dX7_init_72 (by decide) ?_
    refine zv_newI (N := 4) (mc := 0) (ms := 0) za_int (by decide) (by decide) (by decide) dX7_init_73 ?_
    refine zv_putF (fs := [.ref (zg_B G + 1), .ref (zg_B G + 2), .ref (zg_B G + 3), .ref (zg_B G + 4), .null, .int 0, .int 0, .int 0]) zfw_X7_32_5 rfl ((vne (by show ¬ zg_B G = zg_B G + 5 + 12; omega)).trans h0) (Nat.le_refl _) (by show zg_B G < zg_B G + 5 + 12 + 1; omega) rfl rfl (by simp) dX7_init_75 ?_
    refine zv_return dX7_init_78 rfl ⟨rfl, rfl, ⟨⟨veq, (vne (by omega)).trans ((vne (by show ¬ zg_B G + 1 = zg_B G + 5 + 12; omega)).trans h1), (vne (by omega)).trans ((vne (by show ¬ zg_B G + 2 = zg_B G + 5 + 12; omega)).trans h2), (vne (by omega)).trans ((vne (by show ¬ zg_B G + 3 = zg_B G + 5 + 12; omega)).trans h3), (vne (by omega)).trans ((vne (by show ¬ zg_B G + 4 = zg_B G + 5 + 12; omega)).trans h4), fun j hj => (vne (by omega)).trans ((vne (by show ¬ zg_B G + 5 + j = zg_B G + 5 + 12; omega)).trans (h5 j hj))⟩, (vne (by omega)).trans veq⟩⟩
  | succ m ih =>
    intro k f hk h
    have h' := h
    obtain ⟨h0, h1, h2, h3, h4, h5⟩ := h
    rw [show 6 * (m + 1) + 4 = 6 * m + 4 + 6 by omega]
    refine zv_iload_n dX7_init_46 rfl ?_
    refine zv_bipushv (v := 12) dX7_init_47 (by decide) ?_
    refine zv_icmp_ge (tgt := 71) dX7_init_49 (by decide) (fun c => absurd c (by rw [show (12 : Int32) = nI 12 from rfl, nI_leI (by decide) (by omega)]; omega)) (fun _ => ?_)
    refine zv_aload_n dX7_init_52 rfl ?_
    refine zv_get (ci := 5) (fs := [.ref (zg_B G + 1), .ref (zg_B G + 2), .ref (zg_B G + 3), .ref (zg_B G + 4), .null, .int 0, .int 0, .int 0]) zf_X7_27_5 h0 (Nat.le_refl _) (by show zg_B G < zg_B G + 5 + k; omega) rfl dX7_init_53 ?_
    refine zv_iload_n dX7_init_56 rfl ?_
    refine zv_new (N := 6) (mc := m + 1) (ms := 6 * m + 4) zn_X7_25 dX7_init_57 ?_
    refine zv_dup dX7_init_60 rfl ?_
    rw [show m + 1 = 0 + (m + 1) by omega, show 6 * m + 4 = 0 + (6 * m + 4) by omega]
    refine zv_callIq (mc := m + 1) (ms := 6 * m + 4) zm_X7_31 zkyX4_init cX_iStep rfl rfl (Nat.le_of_ble_eq_true rfl) (by decide) dX7_init_61 ?_
    refine zv_aast4 ((vne (by show ¬ zg_B G + 4 = zg_B G + 5 + k; omega)).trans h4) (by omega) (by show zg_B G + 4 < zg_B G + 5 + k + 1; omega) (vp_in_nI (by omega) (by decide)) veq (by show zg_B G ≤ zg_B G + 5 + k; omega) (by show zg_B G + 5 + k < zg_B G + 5 + k + 1; omega) rfl (Or.inr (by decide +kernel)) dX7_init_64 ?_
    rw [nI_clamp (by omega)]
    refine zv_iinc dX7_init_65 rfl (by decide) ?_
    refine zv_goto (tgt := 46) dX7_init_68 (by decide) ?_
    refine zv_lv [(1, .int (nI (k + 1))), (0, .ref (zg_B G))] (by simp [zs1, Value.category, nI_succ]) ?_
    exact ih (k + 1) _ (by omega) (ixk_put (by omega) h')
set_option maxRecDepth 20000 in
set_option maxHeartbeats 1000000 in
theorem xX_init (hf : f (zg_B G) = .inr (5, [.null, .null, .null, .null, .null, .int 0, .int 0, .int 0])) : zc G l yX7_init cX7_init 2 none 2 [.ref (zg_B G)] (f, zg_B G + 1) 17 104 (fun o h' => o = none ∧ h'.2 = zg_B G + 18 ∧ iX G h'.1) := by
  refine zc.of (by decide) (Nat.le_of_ble_eq_true rfl) ?_
  refine zv_aload_n dX7_init_0 rfl ?_
  refine zv_objInit zo_X7_1 zo_i zo_c (Nat.le_of_ble_eq_true rfl) (by decide) dX7_init_1 ?_
  refine zv_aload_n dX7_init_4 rfl ?_
  refine zv_bipushv (v := 10) dX7_init_5 (by decide) ?_
  refine zv_newT (N := 10) (mc := 16) (ms := 94) zk_X7_9 (by decide) (by decide) (by decide) dX7_init_7 ?_
  dsimp only
  refine zv_putF (fs := [.null, .null, .null, .null, .null, .int 0, .int 0, .int 0]) zfw_X7_11_5 rfl ((vne (by omega)).trans hf) (Nat.le_refl _) (by dsimp only; omega) rfl rfl (by simp) dX7_init_10 ?_
  refine zv_aload_n dX7_init_13 rfl ?_
  refine zv_new (N := 3) (mc := 15) (ms := 91) zn_X7_15 dX7_init_14 ?_
  dsimp only
  refine zv_dup dX7_init_17 rfl ?_
  refine zv_callIq (mc := 15) (ms := 91) zm_X7_17 zkyX0_init (cX_iHeld veq (by omega) (by omega)) rfl rfl (Nat.le_of_ble_eq_true rfl) (by decide) dX7_init_18 ?_
  refine zv_putF (fs := [.ref (zg_B G + 1), .null, .null, .null, .null, .int 0, .int 0, .int 0]) zfw_X7_18_5 rfl ((vne (by omega)).trans ((vne (by omega)).trans veq)) (Nat.le_refl _) (by dsimp only; omega) rfl rfl (by simp) dX7_init_21 ?_
  refine zv_aload_n dX7_init_24 rfl ?_
  refine zv_new (N := 3) (mc := 14) (ms := 88) zn_X7_15 dX7_init_25 ?_
  dsimp only
  refine zv_dup dX7_init_28 rfl ?_
  refine zv_callIq (mc := 14) (ms := 88) zm_X7_17 zkyX0_init (cX_iHeld veq (by omega) (by omega)) rfl rfl (Nat.le_of_ble_eq_true rfl) (by decide) dX7_init_29 ?_
  refine zv_putF (fs := [.ref (zg_B G + 1), .ref (zg_B G + 2), .null, .null, .null, .int 0, .int 0, .int 0]) zfw_X7_22_5 rfl ((vne (by omega)).trans ((vne (by omega)).trans veq)) (Nat.le_refl _) (by dsimp only; omega) rfl rfl (by simp) dX7_init_32 ?_
  refine zv_aload_n dX7_init_35 rfl ?_
  refine zv_bipushv (v := 12) dX7_init_36 (by decide) ?_
  refine zv_newS (N := 12) (mc := 13) (ms := 76) zk_X7_25 (by decide) (by decide) (by decide) dX7_init_38 ?_
  dsimp only
  refine zv_putF (fs := [.ref (zg_B G + 1), .ref (zg_B G + 2), .ref (zg_B G + 3), .null, .null, .int 0, .int 0, .int 0]) zfw_X7_27_5 rfl ((vne (by omega)).trans veq) (Nat.le_refl _) (by dsimp only; omega) rfl rfl (by simp) dX7_init_41 ?_
  refine zv_iconstv (v := 0) dX7_init_44 (by decide) ?_
  refine zv_istore_n dX7_init_45 (by decide) ?_
  refine zv_lv [(1, .int (nI 0)), (0, .ref (zg_B G))] (by simp [zs1, lv_args, Value.category, nI_0, show ((1 : Fin 4) : Nat) = 1 from rfl]) ?_
  refine xX_init_l 12 0 _ rfl ⟨veq, ?_, ?_, ?_, ?_, fun j hj => absurd hj (by omega)⟩
  · exact (vne (by omega)).trans ((vne (by omega)).trans ((vne (by omega)).trans ((vne (by omega)).trans ((vne (by omega)).trans ((vne (by omega)).trans ((vne (by omega)).trans ((vne (by omega)).trans ((vne (by omega)).trans veq))))))))
  · exact (vne (by omega)).trans ((vne (by omega)).trans ((vne (by omega)).trans ((vne (by omega)).trans ((vne (by omega)).trans ((vne (by omega)).trans veq)))))
  · exact (vne (by omega)).trans ((vne (by omega)).trans ((vne (by omega)).trans veq))
  · refine (vne (by omega)).trans (veq.trans ?_)
    rw [show (fun j => if j < 0 then some (zg_B G + 5 + j) else none) = (fun _ : Nat => (none : Option Nat)) from funext (fun j => if_neg (by omega))]
theorem iv_0 : iv s0 0 0 0 0 := by
  refine ⟨⟨rfl, by decide⟩, ⟨rfl, by decide⟩, ⟨rfl, by decide⟩, ⟨rfl, by decide⟩, fun r hr => Or.inl rfl, Or.inl rfl, fun q hq => absurd hq (by omega), fun k hk => ⟨⟨0, by decide, rfl⟩, ⟨0, by decide, rfl⟩, ⟨0, by decide, rfl⟩⟩⟩
theorem cP_0 (h : iX G f) (hn : zg_B G + 28 ≤ nn) (ra pa : Nat → Nat) : cP G f nn s0 0 0 ra pa := by
  obtain ⟨⟨h0, h1, h2, h3, h4, h5⟩, h17⟩ := h
  refine ⟨hn, h0, ⟨_, h1, fun r hr => rfl⟩, h2, ⟨-9, 0, none, h3⟩, h4, fun k hk => ⟨0, h5 k hk, fun z => absurd z (nI_pos (by omega))⟩, h17, fun q hq => absurd hq (by omega), fun p h1 h2 => by omega, fun q q2 hq => absurd hq (by omega), fun p p2 h1 h2 => by omega⟩
end INI
