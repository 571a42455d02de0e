section PIC2
variable {G : zh_G} {f f2 : Nat → va_E} {nn : Nat} {σ σ2 : sg} {R P : Nat} {ra pa : Nat → Nat}
theorem rowp_cg {q : Nat} (e1 : f2 (ra q) = f (ra q)) (e2 : f2 (ra q + 1) = f (ra q + 1)) (h9 : σ2.2.2.1 9 q = σ.2.2.1 9 q) (h10 : σ2.2.2.1 10 q = σ.2.2.1 10 q) (hp : ∀ j : Nat, j < (σ.2.2.1 10 q).toNatClampNeg → σ2.2.2.2 (16 * q + j) = σ.2.2.2 (16 * q + j)) (h : rowp G f nn σ ra pa q) : rowp G f2 nn σ2 ra pa q := by
  unfold rowp at *
  rw [e1, e2, h9, h10]
  refine ⟨h.1, fun hK => ?_, fun hK => ?_⟩
  · obtain ⟨a, num, b, c⟩ := h.2.1 hK
    exact ⟨a, num, b, fun j hj => by rw [hp j hj]; exact c j hj⟩
  · obtain ⟨a, num, b, c⟩ := h.2.2 hK
    exact ⟨a, num, b, fun j hj => by rw [hp j hj]; exact c j hj⟩
/-- fixed cells said anew, the rest as it was -/
theorem cP_gen (h : cP G f nn σ R P ra pa) (hB : f2 (zg_B G) = .inr (5, cob (zg_B G) σ2)) (h1 : ∃ rg : Nat → Option Nat, f2 (zg_B G + 1) = .inl (zg_c G 3, 10, .inr (.inr (.inr (.inr rg)))) ∧ ∀ r : Nat, r < 10 → rg r = adr ra pa (σ2.2.2.1 0 r) (σ2.2.2.1 1 r)) (h2 : f2 (zg_B G + 2) = hcell ra pa σ2) (h3 : ∃ (hk : Int32) (hv : Int64) (ht : Option Nat), f2 (zg_B G + 3) = .inr (0, [.int hk, .long hv, va_rf ht])) (h4 : f2 (zg_B G + 4) = f (zg_B G + 4)) (h5 : ∀ k : Nat, k < 12 → stpp G f2 σ2 k) (h17 : f2 (zg_B G + 17) = .inl (zg_c G 0, 4, .inl (σ2.2.2.1 17))) (hhi : ∀ a : Nat, zg_B G + 28 ≤ a → f2 a = f a) (h9 : σ2.2.2.1 9 = σ.2.2.1 9) (h10 : σ2.2.2.1 10 = σ.2.2.1 10) (h7 : σ2.2.2.1 7 = σ.2.2.1 7) (hp : σ2.2.2.2 = σ.2.2.2) : cP G f2 nn σ2 R P ra pa := by
  obtain ⟨k1, k2, k3, k4, k5, k6, k7, k8, k9, k10, k11⟩ := h
  refine ⟨k1, hB, h1, h2, h3, h4.trans k6, h5, h17, fun q hq => ?_, fun p hp1 hp2 => ?_, k11⟩
  · have hr := k9 q hq
    exact rowp_cg (hhi _ hr.1.1) (hhi _ (by have := hr.1.1; omega)) (by rw [h9]) (by rw [h10]) (fun j _ => by rw [hp]) hr
  · have hr := k10 p hp1 hp2
    unfold prbp at *
    rw [hhi _ hr.1.1, h7]; exact hr
theorem row_inr {q : Nat} (h : rowp G f nn σ ra pa q) : ∃ x, f (ra q) = .inr x := by
  by_cases hK : σ.2.2.1 9 q < 8
  · exact ⟨_, (h.2.1 hK).1⟩
  · exact ⟨_, (h.2.2 hK).1⟩
theorem row_inl {q : Nat} (h : rowp G f nn σ ra pa q) : ∃ x, f (ra q + 1) = .inl x := by
  by_cases hK : σ.2.2.1 9 q < 8
  · obtain ⟨-, n, hn, -⟩ := h.2.1 hK; exact ⟨_, hn⟩
  · obtain ⟨-, n, hn, -⟩ := h.2.2 hK; exact ⟨_, hn⟩
theorem inr_ne {a b : Nat} {x y} (ha : f a = .inr x) (hb : f b = .inl y) : ¬ a = b := fun e => by rw [e, hb] at ha; cases ha
/-- a place of row q written -/
theorem cP_row (h : cP G f nn σ R P ra pa) {q j : Nat} (hq : q < R) (hj : j < 16) (hsz : ∀ q : Nat, q < R → (σ.2.2.1 10 q).toNatClampNeg ≤ 16) {e : va_E} {v : Int64} (hr : rowp G (va_up f (ra q + 1) e) nn (sp σ (16 * q + j) v) ra pa q) : cP G (va_up f (ra q + 1) e) nn (sp σ (16 * q + j) v) R P ra pa := by
  obtain ⟨k1, k2, k3, k4, k5, k6, k7, k8, k9, k10, k11, k12⟩ := h
  have hq0 := k9 q hq
  have hb := hq0.1
  obtain ⟨xl, hxl⟩ := row_inl hq0
  refine ⟨k1, by rw [vne (by omega)]; exact k2, k3.imp (fun rg h => ⟨by rw [vne (by omega)]; exact h.1, h.2⟩), by rw [vne (by omega)]; exact k4, k5.imp (fun a h => h.imp (fun b h => h.imp (fun c h => by rw [vne (by omega)]; exact h))), by rw [vne (by omega)]; exact k6, fun k hk => stpp_ne (k7 k hk) (by omega), by rw [vne (by omega)]; exact k8, fun q2 hq2 => ?_, fun p hp1 hp2 => ?_, k11, k12⟩
  · by_cases hqq : q2 = q
    · subst hqq; exact hr
    · have hr2 := k9 q2 hq2
      obtain ⟨xr, hxr⟩ := row_inr hr2
      refine rowp_cg (σ := σ) (vne (inr_ne hxr hxl)) (vne (fun e => hqq (k11 q2 q hq2 hq (by omega)))) rfl rfl (fun j2 hj2 => ?_) hr2
      have := hsz q2 hq2
      show vp_updL _ _ _ _ = _
      unfold vp_updL
      rw [if_neg (by omega)]
  · have hr2 := k10 p hp1 hp2
    exact prbp_ne hr2 (inr_ne hr2.2 hxl)
theorem cP_num (h : cP G f nn σ R P ra pa) {q j : Nat} (hq : q < R) (hK : σ.2.2.1 9 q < 8) (hj : j < (σ.2.2.1 10 q).toNatClampNeg) (hsz : ∀ q : Nat, q < R → (σ.2.2.1 10 q).toNatClampNeg ≤ 16) {num : Nat → Int64} (hn : f (ra q + 1) = .inl (zg_c G 1, (σ.2.2.1 10 q).toNatClampNeg, .inr (.inl num))) (v : Int64) : cP G (va_up f (ra q + 1) (.inl (zg_c G 1, (σ.2.2.1 10 q).toNatClampNeg, .inr (.inl (vp_updL num j v))))) nn (sp σ (16 * q + j) v) R P ra pa := by
  have hq0 := h.2.2.2.2.2.2.2.2.1 q hq
  obtain ⟨a, num2, b, c⟩ := hq0.2.1 hK
  have e : num2 = num := by rw [hn] at b; injection b with b; injection b with _ b; injection b with _ b; injection b with b; injection b with b; exact b.symm
  subst e
  refine cP_row h hq (by have := hsz q hq; omega) hsz ⟨hq0.1, fun _ => ⟨?_, vp_updL num2 j v, ?_, fun j2 hj2 => ?_⟩, fun hn2 => absurd hK hn2⟩
  · rw [vne (by omega)]; exact a
  · exact veq
  · show vp_updL num2 j v j2 = vp_updL σ.2.2.2 (16 * q + j) v (16 * q + j2)
    unfold vp_updL
    by_cases hjj : j2 = j
    · rw [if_pos hjj, if_pos (by omega)]
    · rw [if_neg hjj, if_neg (by omega)]; exact c j2 hj2
theorem cP_thg (h : cP G f nn σ R P ra pa) {q j : Nat} (hq : q < R) (hK : ¬ σ.2.2.1 9 q < 8) (hj : j < (σ.2.2.1 10 q).toNatClampNeg) (hsz : ∀ q : Nat, q < R → (σ.2.2.1 10 q).toNatClampNeg ≤ 16) {thg : Nat → Option Nat} (hn : f (ra q + 1) = .inl (zg_c G 3, (σ.2.2.1 10 q).toNatClampNeg, .inr (.inr (.inr (.inr thg))))) {v : Int64} {x : Option Nat} (hx : x = adp ra pa (σ.2.2.1 9 q) v) : cP G (va_up f (ra q + 1) (.inl (zg_c G 3, (σ.2.2.1 10 q).toNatClampNeg, .inr (.inr (.inr (.inr (va_up thg j x))))))) nn (sp σ (16 * q + j) v) R P ra pa := by
  have hq0 := h.2.2.2.2.2.2.2.2.1 q hq
  obtain ⟨a, num2, b, c⟩ := hq0.2.2 hK
  have e : num2 = thg := by rw [hn] at b; injection b with b; injection b with _ b; injection b with _ b; injection b with b; injection b with b; injection b with b; injection b with b; exact b.symm
  subst e
  refine cP_row h hq (by have := hsz q hq; omega) hsz ⟨hq0.1, fun hn2 => absurd hn2 hK, fun _ => ⟨?_, va_up num2 j x, ?_, fun j2 hj2 => ?_⟩⟩
  · rw [vne (by omega)]; exact a
  · exact veq
  · show va_up num2 j x j2 = adp ra pa (σ.2.2.1 9 q) (vp_updL σ.2.2.2 (16 * q + j) v (16 * q + j2))
    unfold vp_updL va_up
    by_cases hjj : j2 = j
    · rw [if_pos hjj, if_pos (by omega)]; exact hx
    · rw [if_neg hjj, if_neg (by omega)]; exact c j2 hj2
/-- a rack said anew -/
theorem cP_rack (h : cP G f nn σ R P ra pa) {r : Nat} {t w : Int32} {rg : Nat → Option Nat} (hrg : f (zg_B G + 1) = .inl (zg_c G 3, 10, .inr (.inr (.inr (.inr rg))))) {x : Option Nat} (hx : x = adr ra pa t w) (hA : σ2.2.2 = (va_up (va_up σ.2.2.1 0 (upd (σ.2.2.1 0) r t)) 1 (upd (σ.2.2.1 1) r w), σ.2.2.2)) (h1' : σ2.1 = σ.1) (hv : σ2.2.1 = σ.2.1) : cP G (va_up f (zg_B G + 1) (.inl (zg_c G 3, 10, .inr (.inr (.inr (.inr (va_up rg r x))))))) nn σ2 R P ra pa := by
  have h0 := h
  obtain ⟨k1, k2, ⟨rg2, k3, k3b⟩, k4, k5, k6, k7, k8, k9, k10, k11, k12⟩ := h
  have e : rg2 = rg := by rw [hrg] at k3; injection k3 with b; injection b with _ b; injection b with _ b; injection b with b; injection b with b; injection b with b; injection b with b; exact b.symm
  subst e
  have hA1 : σ2.2.2.1 = va_up (va_up σ.2.2.1 0 (upd (σ.2.2.1 0) r t)) 1 (upd (σ.2.2.1 1) r w) := by rw [hA]
  refine cP_gen h0 (by rw [vne (by omega), k2]; unfold cob; rw [h1']) ⟨_, veq, fun r2 hr2 => ?_⟩ (by rw [vne (by omega), k4]; unfold hcell s_has s_val xF xS; rw [h1', hv, hA1]; rfl) (k5.imp (fun a h => h.imp (fun b h => h.imp (fun c h => by rw [vne (by omega)]; exact h)))) (vne (by omega)) (fun k hk => ?_) (by rw [vne (by omega), k8, hA1]; rfl) (fun a ha => vne (by omega)) (by rw [hA1]; rfl) (by rw [hA1]; rfl) (by rw [hA1]; rfl) (by rw [hA])
  · rw [hA1]
    show va_up rg2 r x r2 = adr ra pa (upd (σ.2.2.1 0) r t r2) (upd (σ.2.2.1 1) r w r2)
    unfold va_up upd
    by_cases hrr : r2 = r
    · rw [if_pos hrr, if_pos hrr, if_pos hrr]; exact hx
    · rw [if_neg hrr, if_neg hrr, if_neg hrr]; exact k3b r2 hr2
  · have := stpp_ne (e := .inl (zg_c G 3, 10, .inr (.inr (.inr (.inr (va_up rg2 r x)))))) (k7 k hk) (x := zg_B G + 1) (by omega)
    unfold stpp at *
    rw [hA1, h1']; exact this
end PIC2
