section SSS
variable {G : zh_G} {l : Launch} {f f2 : Nat → va_E} {nn : Nat} {σ σ2 : sg} {R P N D : Nat} {ra pa : Nat → Nat}
theorem five (n : Nat) : 5 * nI n = nI (5 * n) := (Int32.ofNat_mul 5 n).symm
def s_sp (σ : sg) (N : Nat) (op a i b k : Int32) : sg := si (sa (sa (sa (sa (sa σ 13 (5 * N) op) 13 (5 * N + 1) a) 13 (5 * N + 2) i) 13 (5 * N + 3) b) 13 (5 * N + 4) k) 12 (nI (N + 1))
theorem sp_1 (σ : sg) (N : Nat) (op a i b k : Int32) : (s_sp σ N op a i b k).1 = upd σ.1 12 (nI (N + 1)) ∧ (s_sp σ N op a i b k).2.1 = σ.2.1 ∧ (s_sp σ N op a i b k).2.2.2 = σ.2.2.2 := ⟨rfl, rfl, rfl⟩
theorem sp_A (σ : sg) (N : Nat) (op a i b k : Int32) (x : Nat) (hx : ¬ x = 13) : (s_sp σ N op a i b k).2.2.1 x = σ.2.2.1 x := by
  unfold s_sp si sa
  simp [va_up, hx]
theorem sp_13 (σ : sg) (N : Nat) (op a i b k : Int32) (x : Nat) : (s_sp σ N op a i b k).2.2.1 13 x = if x = 5 * N + 4 then k else if x = 5 * N + 3 then b else if x = 5 * N + 2 then i else if x = 5 * N + 1 then a else if x = 5 * N then op else σ.2.2.1 13 x := by
  unfold s_sp si sa
  simp [va_up, upd]
theorem step_no (σ : sg) {op a i b k : Int32} (hs : s_no a = false) (hs2 : s_no b = false) (h : (op < 0 ∨ 5 < op) ∨ (i < -1 ∨ 16 < i) ∨ s_rng k 0 7 = true) : a_step σ op a i b k = -2 ∧ t_step σ op a i b k = σ := by
  simp only [a_step, t_step, hs, hs2, Bool.false_eq_true, if_false]
  by_cases h1 : s_rng op 0 5 = true
  · simp only [h1, if_true]; exact ⟨trivial, trivial⟩
  · by_cases h2 : s_rng i (-1) 16 = true
    · simp only [h1, h2, if_true, if_false, Bool.false_eq_true]; exact ⟨trivial, trivial⟩
    · have h3 : s_rng k 0 7 = true := by
        rcases h with h | h | h
        · exact absurd (rng_t h) h1
        · exact absurd (rng_t h) h2
        · exact h
      simp only [h1, h2, h3, if_true, if_false, Bool.false_eq_true]; exact ⟨trivial, trivial⟩
theorem step_no1 (σ : sg) {op a i b k : Int32} (h : s_no a = true ∨ s_no b = true) : a_step σ op a i b k = -1 ∧ t_step σ op a i b k = σ := by
  unfold a_step t_step
  by_cases h1 : s_no a = true
  · simp only [h1, if_true]; exact ⟨trivial, trivial⟩
  · have h2 := h.resolve_left h1
    simp only [h1, h2, if_true, if_false, Bool.false_eq_true]; exact ⟨trivial, trivial⟩
theorem step_ok (hi : iv σ R P N D) {op a i b k : Int32} (hs : s_no a = false) (hs2 : s_no b = false) (h1 : s_rng op 0 5 = false) (h2 : s_rng i (-1) 16 = false) (h3 : s_rng k 0 7 = false) : (N < 12 → a_step σ op a i b k = nI (N + 1) ∧ t_step σ op a i b k = s_sp σ N op a i b k) ∧ (¬ N < 12 → a_step σ op a i b k = -4 ∧ t_step σ op a i b k = σ) := by
  simp only [a_step, t_step, hs, hs2, h1, h2, h3, Bool.false_eq_true, if_false]
  have hN := hi.2.2.1.2
  rw [hi.2.2.1.1]
  refine ⟨fun h => ?_, fun h => ?_⟩
  · have e : ¬ nI N = 12 := by rw [show (12 : Int32) = nI 12 from rfl, nI_eq (by omega) (by decide)]; omega
    rw [if_neg e, if_neg e, nI_1]
    refine ⟨rfl, ?_⟩
    unfold s_st5 s_sp
    rw [five, nI_1, show (2 : Int32) = nI 2 from rfl, show (3 : Int32) = nI 3 from rfl, show (4 : Int32) = nI 4 from rfl, nI_add, nI_add, nI_add, nI_clamp (by omega), nI_clamp (by omega), nI_clamp (by omega), nI_clamp (by omega), nI_clamp (by omega)]
  · have e : nI N = 12 := by rw [show N = 12 by omega]; rfl
    rw [if_pos e, if_pos e]; exact ⟨rfl, rfl⟩
theorem iv_sp (hi : iv σ R P N D) (hN : N < 12) {op a i b k : Int32} (ha : ∃ j : Nat, j < 10 ∧ a = nI j) (hb : ∃ j : Nat, j < 10 ∧ b = nI j) (hk : ∃ j : Nat, j < 8 ∧ k = nI j) : iv (s_sp σ N op a i b k) R P (N + 1) D := by
  obtain ⟨a1, p, c, d, e, g, h, m⟩ := hi
  obtain ⟨q1, q2, q3⟩ := sp_1 σ N op a i b k
  refine ⟨by rw [q1]; exact a1, by rw [q1]; exact p, ⟨by rw [q1]; rfl, by omega⟩, ⟨by rw [q1]; exact d.1, by omega⟩, fun r hr => ?_, ?_, fun q hq => ?_, fun j hj => ?_⟩
  · rw [sp_A _ _ _ _ _ _ _ 0 (by decide), sp_A _ _ _ _ _ _ _ 1 (by decide)]; exact e r hr
  · unfold gv at *
    rw [sp_A _ _ _ _ _ _ _ 9 (by decide), q1, q2]; exact g
  · have z := h q hq
    unfold rv pv at *
    rw [sp_A _ _ _ _ _ _ _ 9 (by decide), sp_A _ _ _ _ _ _ _ 10 (by decide), sp_A _ _ _ _ _ _ _ 7 (by decide), q3]; exact z
  · have z := m j hj
    unfold stp at *
    rw [sp_13, sp_13, sp_13]
    by_cases hjN : j = N
    · subst hjN
      rw [if_neg (by omega), if_neg (by omega), if_neg (by omega), if_pos rfl, if_neg (by omega), if_pos rfl, if_pos rfl]
      exact ⟨ha, hb, hk⟩
    · rw [if_neg (by omega), if_neg (by omega), if_neg (by omega), if_neg (by omega), if_neg (by omega), if_neg (by omega), if_neg (by omega), if_neg (by omega), if_neg (by omega), if_neg (by omega), if_neg (by omega), if_neg (by omega), if_neg (by omega), if_neg (by omega), if_neg (by omega)]
      exact z
theorem cP_sp (h : cP G f nn σ R P ra pa) (hi : iv σ R P N D) (hN : N < 12) {op a i b k : Int32} : cP G (va_up (va_up f (zg_B G + 5 + N) (.inr (3, [.int op, .int a, .int i, .int b, .int k, .int (-9)]))) (zg_B G) (.inr (5, cob (zg_B G) (s_sp σ N op a i b k)))) nn (s_sp σ N op a i b k) R P ra pa := by
  obtain ⟨q1, q2, q3⟩ := sp_1 σ N op a i b k
  have hD := hi.2.2.2.1
  refine cP_gen h veq ?_ ?_ ?_ ((vne (by omega)).trans (vne (by omega))) (fun j hj => ?_) ?_ (fun x hx => (vne (by omega)).trans (vne (by omega))) (sp_A _ _ _ _ _ _ _ 9 (by decide)) (sp_A _ _ _ _ _ _ _ 10 (by decide)) (sp_A _ _ _ _ _ _ _ 7 (by decide)) q3
  · obtain ⟨rg, x, y⟩ := c_r h
    refine ⟨rg, (vne (by omega)).trans ((vne (by omega)).trans x), fun r hr => ?_⟩
    rw [sp_A _ _ _ _ _ _ _ 0 (by decide), sp_A _ _ _ _ _ _ _ 1 (by decide)]; exact y r hr
  · refine (vne (by omega)).trans ((vne (by omega)).trans (h.2.2.2.1.trans ?_))
    unfold hcell s_has s_val xF xS
    rw [sp_A _ _ _ _ _ _ _ 7 (by decide), sp_A _ _ _ _ _ _ _ 10 (by decide), q1, q2]; rfl
  · obtain ⟨x, y, z, e⟩ := c_h h
    exact ⟨x, y, z, (vne (by omega)).trans ((vne (by omega)).trans e)⟩
  · unfold stpp
    by_cases hjN : j = N
    · subst hjN
      refine ⟨-9, ?_, fun _ => ?_⟩
      · refine (vne (by omega)).trans (veq.trans ?_)
        have e0 : (s_sp σ j op a i b k).2.2.1 13 (5 * j) = op := by rw [sp_13, if_neg (by omega), if_neg (by omega), if_neg (by omega), if_neg (by omega), if_pos rfl]
        have e1 : (s_sp σ j op a i b k).2.2.1 13 (5 * j + 1) = a := by rw [sp_13, if_neg (by omega), if_neg (by omega), if_neg (by omega), if_pos rfl]
        have e2 : (s_sp σ j op a i b k).2.2.1 13 (5 * j + 2) = i := by rw [sp_13, if_neg (by omega), if_neg (by omega), if_pos rfl]
        have e3 : (s_sp σ j op a i b k).2.2.1 13 (5 * j + 3) = b := by rw [sp_13, if_neg (by omega), if_pos rfl]
        have e4 : (s_sp σ j op a i b k).2.2.1 13 (5 * j + 4) = k := by rw [sp_13, if_pos rfl]
        rw [e0, e1, e2, e3, e4]
      · rw [q1]
        show -9 = if nI j < σ.1 14 then _ else -9
        rw [if_neg (by rw [hD.1, nI_ltI (by omega) (by omega)]; omega)]
    · obtain ⟨oc, x, y⟩ := c_t h j hj
      refine ⟨oc, ?_, fun hlt => ?_⟩
      · refine (vne (by omega)).trans ((vne (by omega)).trans (x.trans ?_))
        have e : ∀ d : Nat, d < 5 → (s_sp σ N op a i b k).2.2.1 13 (5 * j + d) = σ.2.2.1 13 (5 * j + d) := fun d hd => by
          rw [sp_13, if_neg (by omega), if_neg (by omega), if_neg (by omega), if_neg (by omega), if_neg (by omega)]
        rw [e 1 (by decide), e 2 (by decide), e 3 (by decide), e 4 (by decide), show (s_sp σ N op a i b k).2.2.1 13 (5 * j) = σ.2.2.1 13 (5 * j) from e 0 (by decide)]
      · rw [q1] at hlt ⊢
        rw [sp_A _ _ _ _ _ _ _ 15 (by decide)]
        refine y ?_
        rw [show upd σ.1 12 (nI (N + 1)) 12 = nI (N + 1) from rfl, nI_ltI (by omega) (by omega)] at hlt
        rw [hi.2.2.1.1, nI_ltI (by omega) (by omega)]; omega
  · rw [sp_A _ _ _ _ _ _ _ 17 (by decide)]
    exact (vne (by omega)).trans ((vne (by omega)).trans (c_f h))
end SSS
set_option maxRecDepth 20000 in
set_option maxHeartbeats 1000000 in
theorem xX_step {G : zh_G} {l : Launch} {f : Nat → va_E} {nn : Nat} {σ : sg} {R P N D : Nat} {ra pa : Nat → Nat} (h : cP G f nn σ R P ra pa) (hi : iv σ R P N D) {op a i b k : Int32} : zc G l yX7_step cX7_step 6 (some .int) 1 [.ref (zg_B G), .int op, .int a, .int i, .int b, .int k] (f, nn) 0 0 (cZ G f (t_step σ op a i b k) R (some (.int (a_step σ op a i b k)))) := by
  refine zc.of (by decide) (Nat.le_of_ble_eq_true rfl) ?_
  obtain ⟨rg, er, er2⟩ := c_r h
  have b0 : zg_B G < nn := c_b (x := 0) (by decide) h
  have b1 : zg_B G + 1 < nn := c_b (by decide) h
  have b2 : zg_B G + 2 < nn := c_b (by decide) h
  have b4 : zg_B G + 4 < nn := c_b (by decide) h
  have b17 : zg_B G + 17 < nn := c_b (by decide) h
  refine zv_iload_n dX7_step_0 rfl ?_
  refine zv_callSq (mc := 0) (ms := 0) zm_X7_36 zkyX7_isRack cX_isRack rfl rfl (Nat.le_of_ble_eq_true rfl) (by decide) dX7_step_1 ?_
  refine zv_if_eq (tgt := 15) dX7_step_4 (by decide) (fun c4 => ?_) (fun c4 => ?_)
  · skip
    have hs : s_no a = true := by simpa using zb_0.mp c4
    refine zv_iconstv (v := (-1)) dX7_step_15 (by decide) ?_
    exact zv_ireturn dX7_step_16 rfl (by first | (have z := step_no1 σ (op := op) (a := a) (i := i) (b := b) (k := k) (Or.inl hs); rw [z.1, z.2]; exact ⟨rfl, ⟨R, P, N, D, ra, pa, by omega, hi, h⟩, fun _ _ _ => rfl⟩) | (have z := step_no1 σ (op := op) (a := a) (i := i) (b := b) (k := k) (Or.inr hs2); rw [z.1, z.2]; exact ⟨rfl, ⟨R, P, N, D, ra, pa, by omega, hi, h⟩, fun _ _ _ => rfl⟩))
  · skip
    have hs : s_no a = false := by simpa using zb_n.mp c4
    have hr : vp_in a 10 := no_in hs
    refine zv_iload dX7_step_7 rfl ?_
    refine zv_callSq (mc := 0) (ms := 0) zm_X7_36 zkyX7_isRack cX_isRack rfl rfl (Nat.le_of_ble_eq_true rfl) (by decide) dX7_step_9 ?_
    refine zv_if_ne (tgt := 17) dX7_step_12 (by decide) (fun c12 => ?_) (fun c12 => ?_)
    · skip
      have hs2 : s_no b = false := by simpa using zb_n.mp c12
      have hr2 : vp_in b 10 := no_in hs2
      refine zv_iload_n dX7_step_17 rfl ?_
      refine zv_if_lt (tgt := 45) dX7_step_18 (by decide) (fun c18 => ?_) (fun c18 => ?_)
      · skip
        refine zv_bipushv (v := (-2)) dX7_step_45 (by decide) ?_
        exact zv_ireturn dX7_step_47 rfl (by first | (have z := step_no σ (op := op) (a := a) (i := i) (b := b) (k := k) hs hs2 (Or.inl (Or.inl c18)); rw [z.1, z.2]; exact ⟨rfl, ⟨R, P, N, D, ra, pa, by omega, hi, h⟩, fun _ _ _ => rfl⟩) | (have z := step_no σ (op := op) (a := a) (i := i) (b := b) (k := k) hs hs2 (Or.inl (Or.inr c23)); rw [z.1, z.2]; exact ⟨rfl, ⟨R, P, N, D, ra, pa, by omega, hi, h⟩, fun _ _ _ => rfl⟩) | (have z := step_no σ (op := op) (a := a) (i := i) (b := b) (k := k) hs hs2 (Or.inr (Or.inl (Or.inl c28))); rw [z.1, z.2]; exact ⟨rfl, ⟨R, P, N, D, ra, pa, by omega, hi, h⟩, fun _ _ _ => rfl⟩) | (have z := step_no σ (op := op) (a := a) (i := i) (b := b) (k := k) hs hs2 (Or.inr (Or.inl (Or.inr c34))); rw [z.1, z.2]; exact ⟨rfl, ⟨R, P, N, D, ra, pa, by omega, hi, h⟩, fun _ _ _ => rfl⟩) | (have z := step_no σ (op := op) (a := a) (i := i) (b := b) (k := k) hs hs2 (Or.inr (Or.inr hs3)); rw [z.1, z.2]; exact ⟨rfl, ⟨R, P, N, D, ra, pa, by omega, hi, h⟩, fun _ _ _ => rfl⟩))
      · skip
        refine zv_iload_n dX7_step_21 rfl ?_
        refine zv_iconstv (v := 5) dX7_step_22 (by decide) ?_
        refine zv_icmp_gt (tgt := 45) dX7_step_23 (by decide) (fun c23 => ?_) (fun c23 => ?_)
        · skip
          refine zv_bipushv (v := (-2)) dX7_step_45 (by decide) ?_
          exact zv_ireturn dX7_step_47 rfl (by first | (have z := step_no σ (op := op) (a := a) (i := i) (b := b) (k := k) hs hs2 (Or.inl (Or.inl c18)); rw [z.1, z.2]; exact ⟨rfl, ⟨R, P, N, D, ra, pa, by omega, hi, h⟩, fun _ _ _ => rfl⟩) | (have z := step_no σ (op := op) (a := a) (i := i) (b := b) (k := k) hs hs2 (Or.inl (Or.inr c23)); rw [z.1, z.2]; exact ⟨rfl, ⟨R, P, N, D, ra, pa, by omega, hi, h⟩, fun _ _ _ => rfl⟩) | (have z := step_no σ (op := op) (a := a) (i := i) (b := b) (k := k) hs hs2 (Or.inr (Or.inl (Or.inl c28))); rw [z.1, z.2]; exact ⟨rfl, ⟨R, P, N, D, ra, pa, by omega, hi, h⟩, fun _ _ _ => rfl⟩) | (have z := step_no σ (op := op) (a := a) (i := i) (b := b) (k := k) hs hs2 (Or.inr (Or.inl (Or.inr c34))); rw [z.1, z.2]; exact ⟨rfl, ⟨R, P, N, D, ra, pa, by omega, hi, h⟩, fun _ _ _ => rfl⟩) | (have z := step_no σ (op := op) (a := a) (i := i) (b := b) (k := k) hs hs2 (Or.inr (Or.inr hs3)); rw [z.1, z.2]; exact ⟨rfl, ⟨R, P, N, D, ra, pa, by omega, hi, h⟩, fun _ _ _ => rfl⟩))
        · skip
          refine zv_iload_n dX7_step_26 rfl ?_
          refine zv_iconstv (v := (-1)) dX7_step_27 (by decide) ?_
          refine zv_icmp_lt (tgt := 45) dX7_step_28 (by decide) (fun c28 => ?_) (fun c28 => ?_)
          · skip
            refine zv_bipushv (v := (-2)) dX7_step_45 (by decide) ?_
            exact zv_ireturn dX7_step_47 rfl (by first | (have z := step_no σ (op := op) (a := a) (i := i) (b := b) (k := k) hs hs2 (Or.inl (Or.inl c18)); rw [z.1, z.2]; exact ⟨rfl, ⟨R, P, N, D, ra, pa, by omega, hi, h⟩, fun _ _ _ => rfl⟩) | (have z := step_no σ (op := op) (a := a) (i := i) (b := b) (k := k) hs hs2 (Or.inl (Or.inr c23)); rw [z.1, z.2]; exact ⟨rfl, ⟨R, P, N, D, ra, pa, by omega, hi, h⟩, fun _ _ _ => rfl⟩) | (have z := step_no σ (op := op) (a := a) (i := i) (b := b) (k := k) hs hs2 (Or.inr (Or.inl (Or.inl c28))); rw [z.1, z.2]; exact ⟨rfl, ⟨R, P, N, D, ra, pa, by omega, hi, h⟩, fun _ _ _ => rfl⟩) | (have z := step_no σ (op := op) (a := a) (i := i) (b := b) (k := k) hs hs2 (Or.inr (Or.inl (Or.inr c34))); rw [z.1, z.2]; exact ⟨rfl, ⟨R, P, N, D, ra, pa, by omega, hi, h⟩, fun _ _ _ => rfl⟩) | (have z := step_no σ (op := op) (a := a) (i := i) (b := b) (k := k) hs hs2 (Or.inr (Or.inr hs3)); rw [z.1, z.2]; exact ⟨rfl, ⟨R, P, N, D, ra, pa, by omega, hi, h⟩, fun _ _ _ => rfl⟩))
          · skip
            refine zv_iload_n dX7_step_31 rfl ?_
            refine zv_bipushv (v := 16) dX7_step_32 (by decide) ?_
            refine zv_icmp_gt (tgt := 45) dX7_step_34 (by decide) (fun c34 => ?_) (fun c34 => ?_)
            · skip
              refine zv_bipushv (v := (-2)) dX7_step_45 (by decide) ?_
              exact zv_ireturn dX7_step_47 rfl (by first | (have z := step_no σ (op := op) (a := a) (i := i) (b := b) (k := k) hs hs2 (Or.inl (Or.inl c18)); rw [z.1, z.2]; exact ⟨rfl, ⟨R, P, N, D, ra, pa, by omega, hi, h⟩, fun _ _ _ => rfl⟩) | (have z := step_no σ (op := op) (a := a) (i := i) (b := b) (k := k) hs hs2 (Or.inl (Or.inr c23)); rw [z.1, z.2]; exact ⟨rfl, ⟨R, P, N, D, ra, pa, by omega, hi, h⟩, fun _ _ _ => rfl⟩) | (have z := step_no σ (op := op) (a := a) (i := i) (b := b) (k := k) hs hs2 (Or.inr (Or.inl (Or.inl c28))); rw [z.1, z.2]; exact ⟨rfl, ⟨R, P, N, D, ra, pa, by omega, hi, h⟩, fun _ _ _ => rfl⟩) | (have z := step_no σ (op := op) (a := a) (i := i) (b := b) (k := k) hs hs2 (Or.inr (Or.inl (Or.inr c34))); rw [z.1, z.2]; exact ⟨rfl, ⟨R, P, N, D, ra, pa, by omega, hi, h⟩, fun _ _ _ => rfl⟩) | (have z := step_no σ (op := op) (a := a) (i := i) (b := b) (k := k) hs hs2 (Or.inr (Or.inr hs3)); rw [z.1, z.2]; exact ⟨rfl, ⟨R, P, N, D, ra, pa, by omega, hi, h⟩, fun _ _ _ => rfl⟩))
            · skip
              refine zv_iload dX7_step_37 rfl ?_
              refine zv_callSq (mc := 0) (ms := 0) zm_X7_40 zkyX7_isNumberKind cX_isNK rfl rfl (Nat.le_of_ble_eq_true rfl) (by decide) dX7_step_39 ?_
              refine zv_if_ne (tgt := 48) dX7_step_42 (by decide) (fun c42 => ?_) (fun c42 => ?_)
              · skip
                have hs3 : s_rng k 0 7 = false := by simpa using zb_n.mp c42
                have z1 : s_rng op 0 5 = false := rng_f c18 c23
                have z2 : s_rng i (-1) 16 = false := rng_f c28 c34
                have hok := step_ok hi (op := op) (i := i) hs hs2 z1 z2 hs3
                refine zv_aload_n dX7_step_48 rfl ?_
                refine zv_get (ci := 5) (fs := cob (zg_B G) σ) zf_X7_131_5 (c_o h) (Nat.le_refl _) b0 rfl dX7_step_49 ?_
                refine zv_bipushv (v := 12) dX7_step_52 (by decide) ?_
                refine zv_icmp_lt (tgt := 60) dX7_step_54 (by decide) (fun c54 => ?_) (fun c54 => ?_)
                · skip
                  have hN0 := hi.2.2.1
                  have hN : N < 12 := by rw [hN0.1, show (12 : Int32) = nI 12 from rfl, nI_ltI (by omega) (by decide)] at c54; exact c54
                  obtain ⟨oc, est, hoc⟩ := c_t h N hN
                  refine zv_aload_n dX7_step_60 rfl ?_
                  refine zv_get (ci := 5) (fs := cob (zg_B G) σ) zf_X7_27_5 (c_o h) (Nat.le_refl _) b0 rfl dX7_step_61 ?_
                  refine zv_aload_n dX7_step_64 rfl ?_
                  refine zv_get (ci := 5) (fs := cob (zg_B G) σ) zf_X7_131_5 (c_o h) (Nat.le_refl _) b0 rfl dX7_step_65 ?_
                  rw [hN0.1]
                  refine zv_aald4 (c_s h) (by omega) b4 (vp_in_nI (by omega) (by decide)) dX7_step_68 ?_
                  rw [nI_clamp (by omega), if_pos (by omega)]
                  refine zv_iload_n dX7_step_69 rfl ?_
                  refine zv_iload_n dX7_step_70 rfl ?_
                  refine zv_iload_n dX7_step_71 rfl ?_
                  refine zv_iload dX7_step_72 rfl ?_
                  refine zv_iload dX7_step_74 rfl ?_
                  have b5 : zg_B G + 5 + N < nn := by have := c_n h; omega
                  refine zv_callVq (ci := 3) (mc := 0) (ms := 0) zm_X7_134 zkyX4_become est (by omega) b5 rfl rfl (cX_become est (by omega) b5) rfl rfl (Nat.le_of_ble_eq_true rfl) (by decide) dX7_step_76 ?_
                  refine zv_aload_n dX7_step_79 rfl ?_
                  refine zv_dup dX7_step_80 rfl ?_
                  refine zv_get (ci := 5) (fs := cob (zg_B G) σ) zf_X7_131_5 ((vne (by omega)).trans (c_o h)) (Nat.le_refl _) b0 rfl dX7_step_81 ?_
                  refine zv_iconstv (v := 1) dX7_step_84 (by decide) ?_
                  refine zv_iadd dX7_step_85 ?_
                  rw [hN0.1, nI_1]
                  refine zv_put (fs := cob (zg_B G) σ) zfw_X7_131_5 ((vne (by omega)).trans (c_o h)) (Nat.le_refl _) b0 rfl rfl (by simp [cob]) dX7_step_86 ?_
                  have eB : (cob (zg_B G) σ).set 5 (.int (nI (N + 1))) = cob (zg_B G) (s_sp σ N op a i b k) := rfl
                  rw [eB]
                  refine zv_aload_n dX7_step_89 rfl ?_
                  refine zv_get (ci := 5) (fs := cob (zg_B G) (s_sp σ N op a i b k)) zf_X7_131_5 veq (Nat.le_refl _) b0 rfl dX7_step_90 ?_
                  refine zv_ireturn dX7_step_93 rfl ?_
                  rw [(hok.1 hN).1, (hok.1 hN).2]
                  have hn := h.1
                  exact ⟨rfl, ⟨R, P, N + 1, D, ra, pa, by omega, iv_sp hi hN (vp_in_of hr (by decide)) (vp_in_of hr2 (by decide)) (rng7 hs3), cP_sp h hi hN⟩, fun x h1 h2 => (vne (by omega)).trans (vne (by omega))⟩
                · skip
                  refine zv_bipushv (v := (-4)) dX7_step_57 (by decide) ?_
                  exact zv_ireturn dX7_step_59 rfl (by have z := hok.2 (fun hN => c54 (by rw [hi.2.2.1.1, show (12 : Int32) = nI 12 from rfl, nI_ltI (by omega) (by decide)]; exact hN)); rw [z.1, z.2]; exact ⟨rfl, ⟨R, P, N, D, ra, pa, by omega, hi, h⟩, fun _ _ _ => rfl⟩)
              · skip
                have hs3 : s_rng k 0 7 = true := by simpa using zb_0.mp c42
                refine zv_bipushv (v := (-2)) dX7_step_45 (by decide) ?_
                exact zv_ireturn dX7_step_47 rfl (by first | (have z := step_no σ (op := op) (a := a) (i := i) (b := b) (k := k) hs hs2 (Or.inl (Or.inl c18)); rw [z.1, z.2]; exact ⟨rfl, ⟨R, P, N, D, ra, pa, by omega, hi, h⟩, fun _ _ _ => rfl⟩) | (have z := step_no σ (op := op) (a := a) (i := i) (b := b) (k := k) hs hs2 (Or.inl (Or.inr c23)); rw [z.1, z.2]; exact ⟨rfl, ⟨R, P, N, D, ra, pa, by omega, hi, h⟩, fun _ _ _ => rfl⟩) | (have z := step_no σ (op := op) (a := a) (i := i) (b := b) (k := k) hs hs2 (Or.inr (Or.inl (Or.inl c28))); rw [z.1, z.2]; exact ⟨rfl, ⟨R, P, N, D, ra, pa, by omega, hi, h⟩, fun _ _ _ => rfl⟩) | (have z := step_no σ (op := op) (a := a) (i := i) (b := b) (k := k) hs hs2 (Or.inr (Or.inl (Or.inr c34))); rw [z.1, z.2]; exact ⟨rfl, ⟨R, P, N, D, ra, pa, by omega, hi, h⟩, fun _ _ _ => rfl⟩) | (have z := step_no σ (op := op) (a := a) (i := i) (b := b) (k := k) hs hs2 (Or.inr (Or.inr hs3)); rw [z.1, z.2]; exact ⟨rfl, ⟨R, P, N, D, ra, pa, by omega, hi, h⟩, fun _ _ _ => rfl⟩))
    · skip
      have hs2 : s_no b = true := by simpa using zb_0.mp c12
      refine zv_iconstv (v := (-1)) dX7_step_15 (by decide) ?_
      exact zv_ireturn dX7_step_16 rfl (by first | (have z := step_no1 σ (op := op) (a := a) (i := i) (b := b) (k := k) (Or.inl hs); rw [z.1, z.2]; exact ⟨rfl, ⟨R, P, N, D, ra, pa, by omega, hi, h⟩, fun _ _ _ => rfl⟩) | (have z := step_no1 σ (op := op) (a := a) (i := i) (b := b) (k := k) (Or.inr hs2); rw [z.1, z.2]; exact ⟨rfl, ⟨R, P, N, D, ra, pa, by omega, hi, h⟩, fun _ _ _ => rfl⟩))
section SAM
variable {G : zh_G} {l : Launch} {f f2 : Nat → va_E} {nn : Nat} {σ σ2 : sg} {R P N D : Nat} {ra pa : Nat → Nat}
theorem adr_inj (h : cP G f nn σ R P ra pa) (hi : iv σ R P N D) {t w t2 w2 : Int32} (ht : tw R P t w) (ht2 : tw R P t2 w2) (hz : ¬ t = 0) : adr ra pa t2 w2 = adr ra pa t w ↔ t2 = t ∧ w2 = w := by
  have hR := hi.1.2
  have hP := hi.2.1.2
  refine ⟨fun e => ?_, fun e => by rw [e.1, e.2]⟩
  have hd : ∀ q p : Nat, q < R → 1 ≤ p → p ≤ P → ¬ ra q = pa p := fun q p hq hp1 hp2 e => by
    have h1 := h.2.2.2.2.2.2.2.2.1 q hq
    have h2 := (vwP h hp1 hp2).1
    rw [← e] at h2
    by_cases hK : σ.2.2.1 9 q < 8
    · rw [(h1.2.1 hK).1] at h2; injection h2 with h2; injection h2 with h2 _; exact absurd h2 (by decide)
    · rw [(h1.2.2 hK).1] at h2; injection h2 with h2; injection h2 with h2 _; exact absurd h2 (by decide)
  rcases ht with e1 | ⟨rfl, p, hp1, hp2, rfl⟩ | ⟨rfl, q, hq, rfl⟩
  · exact absurd e1 hz
  · rw [adr_2 _ _ (by omega)] at e
    rcases ht2 with rfl | ⟨rfl, p', hp1', hp2', rfl⟩ | ⟨rfl, q', hq', rfl⟩
    · exact absurd e (by rw [adr_0]; intro z; cases z)
    · rw [adr_2 _ _ (by omega)] at e
      injection e with e
      rw [h.2.2.2.2.2.2.2.2.2.2.2 p' p hp1' hp2' hp1 hp2 e]; exact ⟨rfl, rfl⟩
    · rw [adr_3 _ _ (by omega)] at e
      injection e with e
      exact absurd e (hd _ _ hq' hp1 hp2)
  · rw [adr_3 _ _ (by omega)] at e
    rcases ht2 with rfl | ⟨rfl, p', hp1', hp2', rfl⟩ | ⟨rfl, q', hq', rfl⟩
    · exact absurd e (by rw [adr_0]; intro z; cases z)
    · rw [adr_2 _ _ (by omega)] at e
      injection e with e
      exact absurd e.symm (hd _ _ hq hp1' hp2')
    · rw [adr_3 _ _ (by omega)] at e
      injection e with e
      rw [h.2.2.2.2.2.2.2.2.2.2.1 q' q hq' hq e]; exact ⟨rfl, rfl⟩
theorem s_cnt_f {p : Nat → Bool} (h : ∀ k, p k = false) : ∀ (m k : Nat) (acc : Int32), s_cnt p m k acc = acc := by
  intro m
  induction m with
  | zero => intro k acc; rfl
  | succ m ih =>
    intro k acc
    show s_cnt p m (k + 1) (acc + (if p k = true then 1 else 0)) = acc
    rw [h k, ih]; simp
theorem sm_iff (h : cP G f nn σ R P ra pa) (hi : iv σ R P N D) {r : Int32} (hr : vp_in r 10) (hz : ¬ xT σ r = 0) {k : Nat} (hk : k < 10) : adr ra pa (σ.2.2.1 0 k) (σ.2.2.1 1 k) = adr ra pa (xT σ r) (xW σ r) ↔ s_sm σ r k = true := by
  rw [adr_inj h hi (iv_tw hi hr) (hi.2.2.2.2.1 k hk) hz]
  unfold s_sm
  rw [decide_eq_true_iff]
  refine ⟨fun e => ⟨?_, e⟩, fun e => e.2⟩
  rcases iv_tw hi hr with e1 | ⟨e1, -⟩ | ⟨e1, -⟩
  · exact absurd e1 hz
  · rw [e1]; decide
  · rw [e1]; decide
set_option maxRecDepth 20000 in
set_option maxHeartbeats 1000000 in
theorem xX_same_l (h : cP G f nn σ R P ra pa) (hi : iv σ R P N D) {r : Int32} (hr : vp_in r 10) (hz : ¬ xT σ r = 0) : ∀ (m k : Nat) (acc : Int32), k + m = 10 → zv G l yX7_same cX7_same 4 (some .int) 1 0 0 24 [(3, .int (nI k)), (2, .int acc), (0, .ref (zg_B G)), (1, .int r)] [] (f, nn) (cN G f nn σ R P ra pa (some (.int (s_cnt (s_sm σ r) m k acc)))) := by
  obtain ⟨rg, er, er2⟩ := c_r h
  have b0 : zg_B G < nn := c_b (x := 0) (by decide) h
  have b1 : zg_B G + 1 < nn := c_b (by decide) h
  intro m
  induction m with
  | zero =>
    intro k acc hk
    refine zv_iload_n dX7_same_24 rfl ?_
    refine zv_bipushv (v := 10) dX7_same_25 (by decide) ?_
    refine zv_icmp_ge (tgt := 54) dX7_same_27 (by decide) (fun _ => ?_) (fun c => absurd (by rw [show k = 10 by omega]; decide) c)
    refine zv_iload_n dX7_same_54 rfl ?_
    exact zv_ireturn dX7_same_55 rfl ⟨rfl, rfl, h, fun _ _ _ => rfl⟩
  | succ m ih =>
    intro k acc hk
    have hk10 : vp_in (nI k) 10 := vp_in_nI (by omega) (by decide)
    refine zv_iload_n dX7_same_24 rfl ?_
    refine zv_bipushv (v := 10) dX7_same_25 (by decide) ?_
    refine zv_icmp_ge (tgt := 54) dX7_same_27 (by decide) (fun c => absurd c (by rw [show (10 : Int32) = nI 10 from rfl, nI_leI (by decide) (by omega)]; omega)) (fun _ => ?_)
    refine zv_aload_n dX7_same_30 rfl ?_
    refine zv_get (ci := 5) (fs := cob (zg_B G) σ) zf_X7_11_5 (c_o h) (Nat.le_refl _) b0 rfl dX7_same_31 ?_
    refine zv_iload_n dX7_same_34 rfl ?_
    refine zv_aald3 er (by omega) b1 hk10 dX7_same_35 ?_
    refine zv_aload_n dX7_same_36 rfl ?_
    refine zv_get (ci := 5) (fs := cob (zg_B G) σ) zf_X7_11_5 (c_o h) (Nat.le_refl _) b0 rfl dX7_same_37 ?_
    refine zv_iload_n dX7_same_40 rfl ?_
    refine zv_aald3 er (by omega) b1 hr dX7_same_41 ?_
    rw [rk_val h hr er2, nI_clamp (by omega), er2 k (by omega)]
    have hsm := sm_iff h hi hr hz (k := k) (by omega)
    have step : s_cnt (s_sm σ r) (m + 1) k acc = s_cnt (s_sm σ r) m (k + 1) (acc + (if s_sm σ r k = true then 1 else 0)) := rfl
    rw [step]
    refine zv_acmp_ne (tgt := 48) dX7_same_42 (by decide) (fun c42 => ?_) (fun c42 => ?_)
    · rw [if_neg (fun z => c42 (hsm.mpr z))]
      refine zv_iinc dX7_same_48 rfl (by decide) ?_
      refine zv_goto (tgt := 24) dX7_same_51 (by decide) ?_
      refine zv_lv [(3, .int (nI (k + 1))), (2, .int (acc + 0)), (0, .ref (zg_B G)), (1, .int r)] (by simp [zs1, Value.category, nI_succ]) ?_
      exact ih (k + 1) _ (by omega)
    · rw [if_pos (hsm.mp c42)]
      refine zv_iinc dX7_same_45 rfl (by decide) ?_
      refine zv_iinc dX7_same_48 rfl (by decide) ?_
      refine zv_goto (tgt := 24) dX7_same_51 (by decide) ?_
      refine zv_lv [(3, .int (nI (k + 1))), (2, .int (acc + 1)), (0, .ref (zg_B G)), (1, .int r)] (by simp [zs1, Value.category, nI_succ]) ?_
      exact ih (k + 1) _ (by omega)
end SAM
set_option maxRecDepth 20000 in
set_option maxHeartbeats 1000000 in
theorem xX_same {G : zh_G} {l : Launch} {f : Nat → va_E} {nn : Nat} {σ : sg} {R P N D : Nat} {ra pa : Nat → Nat} (h : cP G f nn σ R P ra pa) (hi : iv σ R P N D) {r : Int32} : zc G l yX7_same cX7_same 4 (some .int) 1 [.ref (zg_B G), .int r] (f, nn) 0 0 (cN G f nn σ R P ra pa (some (.int (a_same σ r)))) := by
  refine zc.of (by decide) (Nat.le_of_ble_eq_true rfl) ?_
  obtain ⟨rg, er, er2⟩ := c_r h
  have b0 : zg_B G < nn := c_b (x := 0) (by decide) h
  have b1 : zg_B G + 1 < nn := c_b (by decide) h
  have b2 : zg_B G + 2 < nn := c_b (by decide) h
  have b4 : zg_B G + 4 < nn := c_b (by decide) h
  have b17 : zg_B G + 17 < nn := c_b (by decide) h
  refine zv_iload_n dX7_same_0 rfl ?_
  refine zv_callSq (mc := 0) (ms := 0) zm_X7_36 zkyX7_isRack cX_isRack rfl rfl (Nat.le_of_ble_eq_true rfl) (by decide) dX7_same_1 ?_
  refine zv_if_ne (tgt := 9) dX7_same_4 (by decide) (fun c4 => ?_) (fun c4 => ?_)
  · skip
    have hs : s_no r = false := by simpa using zb_n.mp c4
    have hr : vp_in r 10 := no_in hs
    refine zv_aload_n dX7_same_9 rfl ?_
    refine zv_get (ci := 5) (fs := cob (zg_B G) σ) zf_X7_11_5 (c_o h) (Nat.le_refl _) b0 rfl dX7_same_10 ?_
    refine zv_iload_n dX7_same_13 rfl ?_
    refine zv_aald3 er (by omega) b1 hr dX7_same_14 ?_
    rw [rk_val h hr er2]
    rcases iv_tw hi hr with et | ⟨et, p, hp1, hp2, ew⟩ | ⟨et, q, hq, ew⟩
    · rw [et, adr_0]
      refine zv_ifnonnullN dX7_same_15 ?_
      refine zv_iconstv (v := 0) dX7_same_18 (by decide) ?_
      exact zv_ireturn dX7_same_19 rfl ⟨by simp only [a_same, hs, Bool.false_eq_true, if_false]; rw [s_cnt_f (fun k => by unfold s_sm; rw [decide_eq_false (fun z => absurd z.1 (by rw [et]; decide))])], rfl, h, fun _ _ _ => rfl⟩
    · have ez : adr ra pa (xT σ r) (xW σ r) = some (pa p) := by rw [et, ew, adr_2 ra pa (by have := hi.2.1.2; omega)]
      rw [ez]
      refine zv_ifnonnull (tgt := 20) dX7_same_15 (by decide) ?_
      refine zv_iconstv (v := 0) dX7_same_20 (by decide) ?_
      refine zv_istore_n dX7_same_21 (by decide) ?_
      refine zv_iconstv (v := 0) dX7_same_22 (by decide) ?_
      refine zv_istore_n dX7_same_23 (by decide) ?_
      refine zv_lv [(3, .int (nI 0)), (2, .int 0), (0, .ref (zg_B G)), (1, .int r)] (by simp [zs1, lv_args, Value.category, nI_0, show ((3 : Fin 4) : Nat) = 3 from rfl, show ((2 : Fin 4) : Nat) = 2 from rfl]) ?_
      have z := xX_same_l (l := l) h hi hr (by rw [et]; decide) 10 0 0 rfl
      rw [show a_same σ r = s_cnt (s_sm σ r) 10 0 0 by simp only [a_same, hs, Bool.false_eq_true, if_false]]
      exact z
    · have ez : adr ra pa (xT σ r) (xW σ r) = some (ra q) := by rw [et, ew, adr_3 ra pa (by have := hi.1.2; omega)]
      rw [ez]
      refine zv_ifnonnull (tgt := 20) dX7_same_15 (by decide) ?_
      refine zv_iconstv (v := 0) dX7_same_20 (by decide) ?_
      refine zv_istore_n dX7_same_21 (by decide) ?_
      refine zv_iconstv (v := 0) dX7_same_22 (by decide) ?_
      refine zv_istore_n dX7_same_23 (by decide) ?_
      refine zv_lv [(3, .int (nI 0)), (2, .int 0), (0, .ref (zg_B G)), (1, .int r)] (by simp [zs1, lv_args, Value.category, nI_0, show ((3 : Fin 4) : Nat) = 3 from rfl, show ((2 : Fin 4) : Nat) = 2 from rfl]) ?_
      have z := xX_same_l (l := l) h hi hr (by rw [et]; decide) 10 0 0 rfl
      rw [show a_same σ r = s_cnt (s_sm σ r) 10 0 0 by simp only [a_same, hs, Bool.false_eq_true, if_false]]
      exact z
  · skip
    have hs : s_no r = true := by simpa using zb_0.mp c4
    refine zv_iconstv (v := (-1)) dX7_same_7 (by decide) ?_
    exact zv_ireturn dX7_same_8 rfl ⟨by simp [a_same, hs], rfl, h, fun _ _ _ => rfl⟩
