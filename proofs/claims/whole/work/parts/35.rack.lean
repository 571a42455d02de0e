section RACK
variable {G : zh_G} {l : Launch} {f f2 : Nat → va_E} {nn : Nat} {σ : sg} {R P N D : Nat} {ra pa : Nat → Nat}
theorem rack_no (σ : sg) {r k n : Int32} (hs : s_no r = false) (h : (k < 0 ∨ 11 ≤ k) ∨ (n < 0 ∨ ¬ n ≤ 16)) : a_rack r k n = -2 ∧ t_rack σ r k n = σ := by
  simp only [a_rack, t_rack, hs, Bool.false_eq_true, if_false]
  by_cases h1 : s_rng k 0 10 = true
  · simp only [h1, if_true]; exact ⟨trivial, trivial⟩
  · have h2 : s_rng n 0 16 = true := by
      rcases h with h | h
      · exact absurd (rng_t (h.imp id le_11.mp)) h1
      · exact rng_t (h.imp id Int32.not_le.mp)
    simp only [h1, h2, if_true, if_false, Bool.false_eq_true]; exact ⟨trivial, trivial⟩
theorem rack_yes (σ : sg) {r : Int32} {k s : Nat} (hs : s_no r = false) (hk : k ≤ 10) (hn : s ≤ 16) : a_rack r (nI k) (nI s) = nI s ∧ t_rack σ r (nI k) (nI s) = sa (sa (s_newS σ (nI k) (nI s)) 0 r.toNatClampNeg 3) 1 r.toNatClampNeg (σ.1 8) := by
  have h1 : s_rng (nI k) 0 10 = false := rng_f (nI_pos (by omega)) (by rw [show (10 : Int32) = nI 10 from rfl, nI_ltI (by decide) (by omega)]; omega)
  have h2 : s_rng (nI s) 0 16 = false := rng_f (nI_pos (by omega)) (by rw [show (16 : Int32) = nI 16 from rfl, nI_ltI (by decide) (by omega)]; omega)
  simp only [a_rack, t_rack, hs, h1, h2, Bool.false_eq_true, if_false]
  exact ⟨trivial, rack_eq _ _ _ _ _⟩
theorem sa2_A (σ : sg) (r : Nat) (t w : Int32) : (sa (sa σ 0 r t) 1 r w).2.2 = (va_up (va_up σ.2.2.1 0 (upd (σ.2.2.1 0) r t)) 1 (upd (σ.2.2.1 1) r w), σ.2.2.2) := rfl
theorem sa2_1 (σ : sg) (r : Nat) (t w : Int32) : (sa (sa σ 0 r t) 1 r w).1 = σ.1 := rfl
theorem sa2_v (σ : sg) (r : Nat) (t w : Int32) : (sa (sa σ 0 r t) 1 r w).2.1 = σ.2.1 := rfl
theorem rack_fin (h : cP G f nn σ R P ra pa) (hi : iv σ R P N D) (hR : R + 1 ≤ 4000) {k s : Nat} (hk : k ≤ 10) (hs : s ≤ 16) {r : Int32} (hno : s_no r = false) (hlo : ∀ a : Nat, a < nn → f2 a = f a) (hN : k < 8 → f2 nn = .inr (1, [.int (nI k), .int (nI s), .ref (nn + 1)]) ∧ f2 (nn + 1) = .inl (zg_c G 1, s, .inr (.inl (fun _ => 0)))) (hT : ¬ k < 8 → f2 nn = .inr (4, [.int (nI k), .int (nI s), .ref (nn + 1)]) ∧ f2 (nn + 1) = .inl (zg_c G 3, s, .inr (.inr (.inr (.inr (fun _ => none)))))) {rg : Nat → Option Nat} (hrg : f2 (zg_B G + 1) = .inl (zg_c G 3, 10, .inr (.inr (.inr (.inr rg))))) : cZ G f (t_rack σ r (nI k) (nI s)) R (some (.int (a_rack r (nI k) (nI s)))) (some (.int (nI s))) (va_up f2 (zg_B G + 1) (.inl (zg_c G 3, 10, .inr (.inr (.inr (.inr (va_up rg r.toNatClampNeg (some nn))))))), nn + 1 + 1) := by
  have hn := h.1
  rw [(rack_yes σ hno hk hs).1, (rack_yes σ hno hk hs).2]
  refine ⟨rfl, ⟨R + 1, P, N, D, va_up ra R nn, pa, Nat.le_refl _, iv_rack (iv_new hi hk hs hR) (Or.inr (Or.inr ⟨rfl, R, by omega, hi.1.1⟩)), ?_⟩, fun a h1 h2 => ?_⟩
  · refine cP_rack (t := 3) (w := σ.1 8) (cP_new h hi hk hs hlo hN hT) hrg ?_ (sa2_A _ _ _ _) (sa2_1 _ _ _ _) (sa2_v _ _ _ _)
    rw [hi.1.1, adr_3 _ _ (by omega)]
    unfold va_up; rw [if_pos rfl]
  · show va_up f2 (zg_B G + 1) _ a = f a
    exact (vne (by omega)).trans (hlo a (by omega))
end RACK
theorem rg3 {α : Prop} (h : α) : α := h
theorem isn_t {k : Nat} (h : k < 8) : zb (!(s_rng (nI k) 0 7)) = 1 := by
  rw [rng_f (nI_pos (by omega)) (by rw [show (7 : Int32) = nI 7 from rfl, nI_ltI (by decide) (by omega)]; omega)]; rfl
theorem isn_f {k : Nat} (hk : k ≤ 10) (h : ¬ k < 8) : zb (!(s_rng (nI k) 0 7)) = 0 := by
  rw [rng_t (Or.inr (by rw [show (7 : Int32) = nI 7 from rfl, nI_ltI (by decide) (by omega)]; omega))]; rfl
set_option maxRecDepth 20000 in
set_option maxHeartbeats 1000000 in
theorem xX_rack {G : zh_G} {l : Launch} {f : Nat → va_E} {nn : Nat} {σ : sg} {R P N D : Nat} {ra pa : Nat → Nat} (h : cP G f nn σ R P ra pa) (hi : iv σ R P N D) (hR : R + 1 ≤ 4000) {r k n : Int32} : zc G l yX7_rack cX7_rack 4 (some .int) 4 [.ref (zg_B G), .int r, .int k, .int n] (f, nn) 2 19 (cZ G f (t_rack σ r k n) R (some (.int (a_rack r k n)))) := by
  refine zc.of (by decide) (Nat.le_of_ble_eq_true rfl) ?_
  obtain ⟨rg, er, er2⟩ := c_r h
  have b0 : zg_B G < nn := c_b (x := 0) (by decide) h
  have b1 : zg_B G + 1 < nn := c_b (by decide) h
  have b2 : zg_B G + 2 < nn := c_b (by decide) h
  have b4 : zg_B G + 4 < nn := c_b (by decide) h
  have b17 : zg_B G + 17 < nn := c_b (by decide) h
  refine zv_iload_n dX7_rack_0 rfl ?_
  refine zv_callSq (mc := 2) (ms := 19) zm_X7_36 zkyX7_isRack cX_isRack rfl rfl (Nat.le_of_ble_eq_true rfl) (by decide) dX7_rack_1 ?_
  refine zv_if_ne (tgt := 9) dX7_rack_4 (by decide) (fun c4 => ?_) (fun c4 => ?_)
  · skip
    have hs : s_no r = false := by simpa using zb_n.mp c4
    have hr : vp_in r 10 := no_in hs
    refine zv_iload_n dX7_rack_9 rfl ?_
    refine zv_if_lt (tgt := 29) dX7_rack_10 (by decide) (fun c10 => ?_) (fun c10 => ?_)
    · skip
      refine zv_bipushv (v := (-2)) dX7_rack_29 (by decide) ?_
      exact zv_ireturn dX7_rack_31 rfl (by first | (have z := rack_no σ (k := k) (n := n) hs (Or.inl (Or.inl c10)); rw [z.1, z.2]; exact ⟨rfl, ⟨R, P, N, D, ra, pa, by omega, hi, h⟩, fun _ _ _ => rfl⟩) | (have z := rack_no σ (k := k) (n := n) hs (Or.inl (Or.inr c16)); rw [z.1, z.2]; exact ⟨rfl, ⟨R, P, N, D, ra, pa, by omega, hi, h⟩, fun _ _ _ => rfl⟩) | (have z := rack_no σ (k := k) (n := n) hs (Or.inr (Or.inl c20)); rw [z.1, z.2]; exact ⟨rfl, ⟨R, P, N, D, ra, pa, by omega, hi, h⟩, fun _ _ _ => rfl⟩) | (have z := rack_no σ (k := k) (n := n) hs (Or.inr (Or.inr c26)); rw [z.1, z.2]; exact ⟨rfl, ⟨R, P, N, D, ra, pa, by omega, hi, h⟩, fun _ _ _ => rfl⟩))
    · skip
      refine zv_iload_n dX7_rack_13 rfl ?_
      refine zv_bipushv (v := 11) dX7_rack_14 (by decide) ?_
      refine zv_icmp_ge (tgt := 29) dX7_rack_16 (by decide) (fun c16 => ?_) (fun c16 => ?_)
      · skip
        refine zv_bipushv (v := (-2)) dX7_rack_29 (by decide) ?_
        exact zv_ireturn dX7_rack_31 rfl (by first | (have z := rack_no σ (k := k) (n := n) hs (Or.inl (Or.inl c10)); rw [z.1, z.2]; exact ⟨rfl, ⟨R, P, N, D, ra, pa, by omega, hi, h⟩, fun _ _ _ => rfl⟩) | (have z := rack_no σ (k := k) (n := n) hs (Or.inl (Or.inr c16)); rw [z.1, z.2]; exact ⟨rfl, ⟨R, P, N, D, ra, pa, by omega, hi, h⟩, fun _ _ _ => rfl⟩) | (have z := rack_no σ (k := k) (n := n) hs (Or.inr (Or.inl c20)); rw [z.1, z.2]; exact ⟨rfl, ⟨R, P, N, D, ra, pa, by omega, hi, h⟩, fun _ _ _ => rfl⟩) | (have z := rack_no σ (k := k) (n := n) hs (Or.inr (Or.inr c26)); rw [z.1, z.2]; exact ⟨rfl, ⟨R, P, N, D, ra, pa, by omega, hi, h⟩, fun _ _ _ => rfl⟩))
      · skip
        refine zv_iload_n dX7_rack_19 rfl ?_
        refine zv_if_lt (tgt := 29) dX7_rack_20 (by decide) (fun c20 => ?_) (fun c20 => ?_)
        · skip
          refine zv_bipushv (v := (-2)) dX7_rack_29 (by decide) ?_
          exact zv_ireturn dX7_rack_31 rfl (by first | (have z := rack_no σ (k := k) (n := n) hs (Or.inl (Or.inl c10)); rw [z.1, z.2]; exact ⟨rfl, ⟨R, P, N, D, ra, pa, by omega, hi, h⟩, fun _ _ _ => rfl⟩) | (have z := rack_no σ (k := k) (n := n) hs (Or.inl (Or.inr c16)); rw [z.1, z.2]; exact ⟨rfl, ⟨R, P, N, D, ra, pa, by omega, hi, h⟩, fun _ _ _ => rfl⟩) | (have z := rack_no σ (k := k) (n := n) hs (Or.inr (Or.inl c20)); rw [z.1, z.2]; exact ⟨rfl, ⟨R, P, N, D, ra, pa, by omega, hi, h⟩, fun _ _ _ => rfl⟩) | (have z := rack_no σ (k := k) (n := n) hs (Or.inr (Or.inr c26)); rw [z.1, z.2]; exact ⟨rfl, ⟨R, P, N, D, ra, pa, by omega, hi, h⟩, fun _ _ _ => rfl⟩))
        · skip
          refine zv_iload_n dX7_rack_23 rfl ?_
          refine zv_bipushv (v := 16) dX7_rack_24 (by decide) ?_
          refine zv_icmp_le (tgt := 32) dX7_rack_26 (by decide) (fun c26 => ?_) (fun c26 => ?_)
          · skip
            obtain ⟨k, hk10, rfl⟩ := rng10 c10 c16
            obtain ⟨s, hs16, rfl⟩ := rng16 c20 c26
            refine zv_iload_n dX7_rack_32 rfl ?_
            refine zv_callSq (mc := 2) (ms := 19) zm_X7_40 zkyX7_isNumberKind cX_isNK rfl rfl (Nat.le_of_ble_eq_true rfl) (by decide) dX7_rack_33 ?_
            refine zv_if_eq (tgt := 57) dX7_rack_36 (by decide) (fun c36 => ?_) (fun c36 => ?_)
            · skip
              have hk8 : ¬ k < 8 := fun z => by have := isn_t z; rw [this] at c36; exact absurd c36 (by decide)
              refine zv_aload_n dX7_rack_57 rfl ?_
              refine zv_get (ci := 5) (fs := cob (zg_B G) σ) zf_X7_11_5 (c_o h) (Nat.le_refl _) b0 rfl dX7_rack_58 ?_
              refine zv_iload_n dX7_rack_61 rfl ?_
              refine zv_new (N := 3) (mc := 1) (ms := 16) zn_X7_48 dX7_rack_62 ?_
              refine zv_dup dX7_rack_65 rfl ?_
              refine zv_iload_n dX7_rack_66 rfl ?_
              refine zv_iload_n dX7_rack_67 rfl ?_
              refine zv_callIq (mc := 0) (ms := 0) zm_X7_50 zkyX6_init (cX_iX6 hs16 veq (by omega) (by omega)) rfl rfl (Nat.le_of_ble_eq_true rfl) (by decide) dX7_rack_68 ?_
              dsimp only
              refine zv_aast3 ((vne (by omega)).trans ((vne (by omega)).trans ((vne (by omega)).trans er))) (by omega) (by omega) hr veq (by omega) (by omega) rfl (Or.inl (by decide +kernel)) dX7_rack_71 ?_
              refine zv_iload_n dX7_rack_72 rfl ?_
              exact zv_ireturn dX7_rack_73 rfl (by first | exact (rack_fin h hi hR hk10 hs16 hs (fun a ha => by rw [vne (by omega), vne (by omega), vne (by omega)]) (fun _ => ⟨veq, by rw [vne (by omega)]; exact veq⟩) (fun z => absurd hk8 z) (by rw [vne (by omega), vne (by omega), vne (by omega)]; exact er)) | exact (rack_fin h hi hR hk10 hs16 hs (fun a ha => by rw [vne (by omega), vne (by omega), vne (by omega)]) (fun z => absurd z hk8) (fun _ => ⟨veq, by rw [vne (by omega)]; exact veq⟩) (by rw [vne (by omega), vne (by omega), vne (by omega)]; exact er)))
            · skip
              have hk8 : k < 8 := Classical.byContradiction (fun z => c36 (by rw [isn_f hk10 z]))
              refine zv_aload_n dX7_rack_39 rfl ?_
              refine zv_get (ci := 5) (fs := cob (zg_B G) σ) zf_X7_11_5 (c_o h) (Nat.le_refl _) b0 rfl dX7_rack_40 ?_
              refine zv_iload_n dX7_rack_43 rfl ?_
              refine zv_new (N := 3) (mc := 1) (ms := 16) zn_X7_43 dX7_rack_44 ?_
              refine zv_dup dX7_rack_47 rfl ?_
              refine zv_iload_n dX7_rack_48 rfl ?_
              refine zv_iload_n dX7_rack_49 rfl ?_
              refine zv_callIq (mc := 0) (ms := 0) zm_X7_45 zkyX1_init (cX_iX1 hs16 veq (by omega) (by omega)) rfl rfl (Nat.le_of_ble_eq_true rfl) (by decide) dX7_rack_50 ?_
              dsimp only
              refine zv_aast3 ((vne (by omega)).trans ((vne (by omega)).trans ((vne (by omega)).trans er))) (by omega) (by omega) hr veq (by omega) (by omega) rfl (Or.inl (by decide +kernel)) dX7_rack_53 ?_
              refine zv_goto (tgt := 72) dX7_rack_54 (by decide) ?_
              refine zv_iload_n dX7_rack_72 rfl ?_
              exact zv_ireturn dX7_rack_73 rfl (by first | exact (rack_fin h hi hR hk10 hs16 hs (fun a ha => by rw [vne (by omega), vne (by omega), vne (by omega)]) (fun _ => ⟨veq, by rw [vne (by omega)]; exact veq⟩) (fun z => absurd hk8 z) (by rw [vne (by omega), vne (by omega), vne (by omega)]; exact er)) | exact (rack_fin h hi hR hk10 hs16 hs (fun a ha => by rw [vne (by omega), vne (by omega), vne (by omega)]) (fun z => absurd z hk8) (fun _ => ⟨veq, by rw [vne (by omega)]; exact veq⟩) (by rw [vne (by omega), vne (by omega), vne (by omega)]; exact er)))
          · skip
            refine zv_bipushv (v := (-2)) dX7_rack_29 (by decide) ?_
            exact zv_ireturn dX7_rack_31 rfl (by first | (have z := rack_no σ (k := k) (n := n) hs (Or.inl (Or.inl c10)); rw [z.1, z.2]; exact ⟨rfl, ⟨R, P, N, D, ra, pa, by omega, hi, h⟩, fun _ _ _ => rfl⟩) | (have z := rack_no σ (k := k) (n := n) hs (Or.inl (Or.inr c16)); rw [z.1, z.2]; exact ⟨rfl, ⟨R, P, N, D, ra, pa, by omega, hi, h⟩, fun _ _ _ => rfl⟩) | (have z := rack_no σ (k := k) (n := n) hs (Or.inr (Or.inl c20)); rw [z.1, z.2]; exact ⟨rfl, ⟨R, P, N, D, ra, pa, by omega, hi, h⟩, fun _ _ _ => rfl⟩) | (have z := rack_no σ (k := k) (n := n) hs (Or.inr (Or.inr c26)); rw [z.1, z.2]; exact ⟨rfl, ⟨R, P, N, D, ra, pa, by omega, hi, h⟩, fun _ _ _ => rfl⟩))
  · skip
    have hs : s_no r = true := by simpa using zb_0.mp c4
    refine zv_iconstv (v := (-1)) dX7_rack_7 (by decide) ?_
    exact zv_ireturn dX7_rack_8 rfl ⟨by simp [a_rack, hs], ⟨R, P, N, D, ra, pa, by omega, by simp [t_rack, hs]; exact hi, by simp [t_rack, hs]; exact h⟩, fun _ _ _ => rfl⟩
