section IVT
variable {G : zh_G} {l : Launch} {f f2 : Nat → va_E} {nn : Nat} {σ σ2 : sg} {R P N D : Nat} {ra pa : Nat → Nat}
theorem iv_hang (hi : iv σ R P N D) (r : Int32) : iv (t_hang σ r) R P N D := by
  unfold t_hang
  by_cases h1 : s_no r = true
  · rw [if_pos h1]; exact hi
  · rw [if_neg h1]
    by_cases h2 : σ.1 2 < 2
    · rw [if_pos h2]; exact hi
    · rw [if_neg h2]
      refine iv_rack hi ?_
      rcases hi.2.2.2.2.2.1 with g | ⟨g, -⟩ | ⟨g, p, hp1, hp2, ep⟩ | ⟨g, q, hq, eq, -⟩
      · rw [g] at h2; exact absurd (by decide) h2
      · rw [g] at h2; exact absurd (by decide) h2
      · exact Or.inr (Or.inl ⟨g, p, hp1, hp2, ep⟩)
      · exact Or.inr (Or.inr ⟨g, q, hq, eq⟩)
theorem no_f {r : Int32} (h : ¬ s_no r = true) : vp_in r 10 := no_in (by simpa using h)
theorem iv_share (hi : iv σ R P N D) (r f : Int32) : iv (t_share σ r f) R P N D := by
  unfold t_share
  by_cases h1 : s_no r = true
  · rw [if_pos h1]; exact hi
  · rw [if_neg h1]
    by_cases h2 : s_no f = true
    · rw [if_pos h2]; exact hi
    · rw [if_neg h2]; exact iv_rack hi (iv_tw hi (no_f h2))
theorem iv_empty (hi : iv σ R P N D) (r : Int32) : iv (t_empty σ r) R P N D := by
  unfold t_empty
  by_cases h1 : s_no r = true
  · rw [if_pos h1]; exact hi
  · rw [if_neg h1]
    obtain ⟨a, b, c, d, e, g, h, m⟩ := hi
    refine ⟨a, b, c, d, fun r2 hr2 => ?_, g, h, m⟩
    show tw R P (upd (σ.2.2.1 0) r.toNatClampNeg 0 r2) (σ.2.2.1 1 r2)
    unfold upd
    by_cases hr : r2 = r.toNatClampNeg
    · rw [if_pos hr]; exact Or.inl rfl
    · rw [if_neg hr]; exact e r2 hr2
theorem iv_gauge (hi : iv σ R P N D) (k : Int32) (v : Int64) : iv (t_gauge σ k v) R P N D := by
  unfold t_gauge
  by_cases h1 : s_rng k 0 7 = true
  · rw [if_pos h1]; exact hi
  · rw [if_neg h1]
    obtain ⟨b, hb, rfl⟩ := rng7 (k := k) (by simpa using h1)
    exact iv_hold hi hb v
theorem iv_none (hi : iv σ R P N D) : iv (t_none σ) R P N D := iv_gg (σ2 := t_none σ) hi rfl rfl rfl rfl rfl (Or.inl rfl)
theorem iv_get (hi : iv σ R P N D) (r i : Int32) : iv (t_get σ r i) R P N D := by
  unfold t_get
  by_cases h1 : s_no r = true
  · rw [if_pos h1]; exact hi
  · rw [if_neg h1]; exact iv_ansS (iv_getS hi (no_f h1) i) _
theorem iv_sett (hi : iv σ R P N D) (r i : Int32) : iv (t_sett σ r i) R P N D := by
  unfold t_sett
  by_cases h1 : s_no r = true
  · rw [if_pos h1]; exact hi
  · rw [if_neg h1]; exact iv_ansS (iv_setS hi (no_f h1) i) _
theorem iv_read (hi : iv σ R P N D) (r i to : Int32) : iv (t_read σ r i to) R P N D := by
  unfold t_read
  by_cases h1 : s_no r = true
  · rw [if_pos h1]; exact hi
  · rw [if_neg h1]
    by_cases h2 : s_rng to 0 7 = true
    · rw [if_pos h2]; exact hi
    · rw [if_neg h2]
      obtain ⟨b, hb, rfl⟩ := rng7 (k := to) (by simpa using h2)
      exact iv_ansS (iv_readS hi _ _ _ hb) _
theorem iv_write (hi : iv σ R P N D) (r i of : Int32) : iv (t_write σ r i of) R P N D := by
  unfold t_write
  by_cases h1 : s_no r = true
  · rw [if_pos h1]; exact hi
  · rw [if_neg h1]
    by_cases h2 : s_rng of 0 7 = true
    · rw [if_pos h2]; exact hi
    · rw [if_neg h2]
      by_cases h3 : ¬ σ.1 2 = 1
      · rw [if_pos h3]; exact hi
      · rw [if_neg h3]; exact iv_ansS (iv_writeS hi (iv_tw hi (no_f h1)) _ _ _) _
theorem iv_size (hi : iv σ R P N D) (r : Int32) : iv (t_size σ r) R P N D := by
  unfold t_size
  by_cases h1 : s_no r = true
  · rw [if_pos h1]; exact hi
  · rw [if_neg h1]; exact iv_ansS hi _
theorem iv_within (hi : iv σ R P N D) (r i j : Int32) : iv (t_within σ r i j) R P N D := by
  unfold t_within
  by_cases h1 : s_no r = true
  · rw [if_pos h1]; exact hi
  · rw [if_neg h1]; exact iv_ansS (iv_wiS hi r i j) _
theorem iv_into (hi : iv σ R P N D) (r i j v : Int32) : iv (t_into σ r i j v) R P N D := by
  unfold t_into
  by_cases h1 : s_no r = true
  · rw [if_pos h1]; exact hi
  · rw [if_neg h1]; exact iv_ansS (iv_inS hi (no_f h1) i j v) _
theorem iv_kinds (hi : iv σ R P N D) (r : Int32) : iv (t_kinds σ r) R P N D := by
  unfold t_kinds
  by_cases h1 : s_no r = true
  · rw [if_pos h1]; exact hi
  · rw [if_neg h1]; exact iv_ansS hi _
theorem iv_clear (hi : iv σ R P N D) : iv (t_clear σ) R P 0 0 := by
  obtain ⟨a, b, c, d, e, g, h, m⟩ := hi
  exact ⟨a, b, ⟨rfl, by decide⟩, ⟨rfl, by decide⟩, e, g, h, m⟩
/-! what the reference's contracts ask of the state -/
theorem m_probe (hi : iv σ R P N D) : ¬ σ.1 6 = 40 → vp_in (σ.1 6 + 1) 41 := by
  have hP := hi.2.1
  intro h
  rw [hP.1, show (40 : Int32) = nI 40 from rfl, nI_eq (by omega) (by decide)] at h
  rw [hP.1, nI_1]; exact vp_in_nI (by omega) (by decide)
theorem m_pass (hi : iv σ R P N D) : ∀ r, vp_in r 10 → xT σ r = 3 → ∃ S : Nat, S ≤ 16 ∧ xS σ (xW σ r) = nI S := by
  intro r hr h3
  rcases iv_tw hi hr with e | ⟨e, -⟩ | ⟨e, q, hq, ew⟩
  · rw [e] at h3; exact absurd h3 (by decide)
  · rw [e] at h3; exact absurd h3 (by decide)
  · have hR := hi.1.2
    obtain ⟨-, ⟨s, hs, es⟩, -⟩ := hi.2.2.2.2.2.2.1 q hq
    exact ⟨s, hs, by rw [ew, xs (by omega)]; exact es⟩
theorem m_step (hi : iv σ R P N D) : ¬ σ.1 12 = 12 → vp_in (5 * σ.1 12) 60 ∧ vp_in (5 * σ.1 12 + 1) 60 ∧ vp_in (5 * σ.1 12 + 2) 60 ∧ vp_in (5 * σ.1 12 + 3) 60 ∧ vp_in (5 * σ.1 12 + 4) 60 := by
  have hN := hi.2.2.1
  intro h
  rw [hN.1, show (12 : Int32) = nI 12 from rfl, nI_eq (by omega) (by decide)] at h
  rw [hN.1, five, nI_1, show (2 : Int32) = nI 2 from rfl, show (3 : Int32) = nI 3 from rfl, show (4 : Int32) = nI 4 from rfl, nI_add, nI_add, nI_add]
  exact ⟨vp_in_nI (by omega) (by decide), vp_in_nI (by omega) (by decide), vp_in_nI (by omega) (by decide), vp_in_nI (by omega) (by decide), vp_in_nI (by omega) (by decide)⟩
theorem m_met (hi : iv σ R P N D) {k : Int32} : s_rng k 0 (σ.1 14 - 1) = false → vp_in k 12 := by
  intro h
  have hN := hi.2.2.1
  have hD := hi.2.2.2.1
  unfold s_rng at h
  rw [decide_eq_false_iff_not, not_or] at h
  obtain ⟨j, hj, rfl⟩ := nI_of h.1
  have h2 := h.2
  rw [hD.1, Int32.lt_iff_toInt_lt, show (1 : Int32) = nI 1 from rfl, pk_sub_toInt (by omega) (by decide), nI_toInt hj] at h2
  exact vp_in_nI (by omega) (by decide)
theorem m_told3 (hi : iv σ R P N D) {r : Int32} : vp_in r 10 → xT σ r = 3 → vp_in (xW σ r) 5000 := by
  intro hr h3
  rcases iv_tw hi hr with e | ⟨e, -⟩ | ⟨e, q, hq, ew⟩
  · rw [e] at h3; exact absurd h3 (by decide)
  · rw [e] at h3; exact absurd h3 (by decide)
  · have hR := hi.1.2
    rw [ew]; exact vp_in_nI (by omega) (by decide)
theorem m_told2 (hi : iv σ R P N D) {r : Int32} : vp_in r 10 → ¬ xT σ r = 0 → ¬ xT σ r = 3 → vp_in (xW σ r) 41 := by
  intro hr h0 h3
  rcases iv_tw hi hr with e | ⟨e, p, hp1, hp2, ew⟩ | ⟨e, -⟩
  · exact absurd e h0
  · have hP := hi.2.1.2
    rw [ew]; exact vp_in_nI (by omega) (by decide)
  · exact absurd e h3
def ivE (σ : sg) : Prop := ∃ R P N D : Nat, iv σ R P N D
theorem m_runI (σ : sg) (h : ivE σ) : okG σ := by
  obtain ⟨R, P, N, D, hi⟩ := h
  exact okG_of hi
theorem m_run (σ : sg) (D N : Nat) (h : ivE σ) (hd : σ.1 14 = nI D) (hn : σ.1 12 = nI N) (hDN : D < N) (hN : N ≤ 12) : stf σ (5 * σ.1 14) ∧ (s_stS σ (5 * σ.1 14)).1 14 = nI D ∧ (s_r1 σ).1 12 = nI N ∧ ivE (s_r1 σ) ∧ ivE (s_met1 (s_r1 σ) (s_stF σ (5 * σ.1 14))) := by
  obtain ⟨R, P, N', D', hi⟩ := h
  have eN : N' = N := by
    have z := hi.2.2.1
    rw [hn] at z
    exact ((nI_eq (by omega) (by omega)).mp z.1).symm
  have eD : D' = D := by
    have z := hi.2.2.2.1
    rw [hd] at z
    have := hi.2.2.1.2
    exact ((nI_eq (by omega) (by omega)).mp z.1).symm
  subst eN; subst eD
  have h1 := iv_r1 hi hDN
  refine ⟨⟨?_, ?_, ?_⟩, (iv_st hi hDN).2.2.2.1.1, h1.2.2.1.1, ⟨_, _, _, _, h1⟩, ⟨_, _, _, _, iv_met h1 _⟩⟩
  · rw [hd, five, nI_1, show (2 : Int32) = nI 2 from rfl, show (3 : Int32) = nI 3 from rfl, show (4 : Int32) = nI 4 from rfl, nI_add, nI_add, nI_add]
    exact ⟨vp_in_nI (by omega) (by decide), vp_in_nI (by omega) (by decide), vp_in_nI (by omega) (by decide), vp_in_nI (by omega) (by decide), vp_in_nI (by omega) (by decide)⟩
  · unfold xO
    rw [hd, five, nI_1, nI_clamp (by omega)]
    obtain ⟨⟨a, ha, ea⟩, -, -⟩ := hi.2.2.2.2.2.2.2 D' (by omega)
    rw [ea]; exact vp_in_nI ha (by decide)
  · unfold xO
    rw [hd, five, show (3 : Int32) = nI 3 from rfl, nI_add, nI_clamp (by omega)]
    obtain ⟨-, ⟨a, ha, ea⟩, -⟩ := hi.2.2.2.2.2.2.2 D' (by omega)
    rw [ea]; exact vp_in_nI ha (by decide)
theorem m_run0 (hi : iv σ R P N D) : ivE (si σ 14 0) := ⟨R, P, N, 0, iv_ag (σ2 := si σ 14 0) (D2 := 0) hi rfl rfl rfl rfl rfl rfl rfl rfl rfl rfl rfl (by omega) rfl rfl rfl rfl⟩
end IVT
section LAW
variable {G : zh_G} {l : Launch} {f f2 : Nat → va_E} {nn : Nat} {σ σ2 : sg} {R P N D : Nat} {ra pa : Nat → Nat} {y : MethodName} {cc : ByteArray} {n : Nat} {r : Option FieldType} {d mc ms0 pc : Nat} {lv : List (Nat × Value)} {st : List Value} {h : zh_H} {Q : Option Value → zh_H → Prop}
theorem zv_sald {i : Int32} (hb : zg_s G < zg_B G) (hin : vp_in i (zg_L G)) (hd : decode cc pc = .ok (.iaload, 1)) (kk : zv G l y cc n r d mc ms0 (pc + 1) lv (.int (zg_x G i.toNatClampNeg) :: st) h Q) : zv G l y cc n r d mc ms0 pc lv (.int i :: .ref (zg_s G) :: st) h Q := by
  intro p e R s m args below meth c Qf C H locs cells slots ls hW hL h1 h2 hl
  obtain ⟨scr, f1, f2, f3, f4, f5⟩ := C.2.2.1.2.2.2.2.2.2.2.2
  have hlt : i.toNatClampNeg < zg_L G := Nat.not_le.mp fun q => hin (Or.inr q)
  exact W.iald (v := .int (zg_x G i.toNatClampNeg)) C.1.1 C.1.2.1 (by rw [hW.2.2.1 _ hb]; exact f1) f2 f3 (fun q => q.elim (fun q => hin (Or.inl q)) (fun q => by omega)) (f5 _ hlt) rfl rfl hd (kk p e R s m args below meth c Qf C H locs cells slots ls hW hL h1 h2 hl)
theorem zv_slen (hb : zg_s G < zg_B G) (hd : decode cc pc = .ok (.arraylength, 1)) (kk : zv G l y cc n r d mc ms0 (pc + 1) lv (.int (nI (zg_L G)) :: st) h Q) : zv G l y cc n r d mc ms0 pc lv (.ref (zg_s G) :: st) h Q := by
  intro p e R s m args below meth c Qf C H locs cells slots ls hW hL h1 h2 hl
  obtain ⟨scr, f1, f2, f3, f4, f5⟩ := C.2.2.1.2.2.2.2.2.2.2.2
  exact W.alen (n := nI (zg_L G)) C.1.1 C.1.2.1 (by rw [hW.2.2.1 _ hb]; exact f1) f2 (by rw [f4]; rfl) rfl rfl hd (kk p e R s m args below meth c Qf C H locs cells slots ls hW hL h1 h2 hl)
/-- the class stands for σ2, the reference still for σ -/
def LI2 (G : zh_G) (f : Nat → va_E) (nn : Nat) (σ σ2 : sg) (R : Nat) : Prop := f = ms G f σ ∧ ∃ (R2 P2 N2 D2 : Nat) (ra pa : Nat → Nat), R2 ≤ R + 1 ∧ iv σ2 R2 P2 N2 D2 ∧ cP G f nn σ2 R2 P2 ra pa
def LI (G : zh_G) (f : Nat → va_E) (nn : Nat) (σ : sg) (R : Nat) : Prop := f = ms G f σ ∧ ∃ (P N D : Nat) (ra pa : Nat → Nat), iv σ R P N D ∧ cP G f nn σ R P ra pa
theorem ms_at (G : zh_G) (g g2 : Nat → va_E) (σ : sg) {a : Nat} (h1 : zg_B G + 18 ≤ a) (h2 : a < zg_B G + 28) : ms G g σ a = ms G g2 σ a := by
  obtain ⟨k, hk, rfl⟩ : ∃ k : Nat, k < 10 ∧ a = zg_B G + 18 + k := ⟨a - (zg_B G + 18), by omega, by omega⟩
  rcases k with _ | _ | _ | _ | _ | _ | _ | _ | _ | _ | k
  · rw [show zg_B G + 18 + 0 = zg_B G + 18 by omega, ms_o, ms_o]
  · rw [show zg_B G + 18 + (0 + 1) = zg_B G + 19 by omega, ms_a0, ms_a0]
  · rw [show zg_B G + 18 + (0 + 1 + 1) = zg_B G + 20 by omega, ms_a1, ms_a1]
  · rw [show zg_B G + 18 + (0 + 1 + 1 + 1) = zg_B G + 21 by omega, ms_a7, ms_a7]
  · rw [show zg_B G + 18 + (0 + 1 + 1 + 1 + 1) = zg_B G + 22 by omega, ms_a9, ms_a9]
  · rw [show zg_B G + 18 + (0 + 1 + 1 + 1 + 1 + 1) = zg_B G + 23 by omega, ms_a10, ms_a10]
  · rw [show zg_B G + 18 + (0 + 1 + 1 + 1 + 1 + 1 + 1) = zg_B G + 24 by omega, ms_a11, ms_a11]
  · rw [show zg_B G + 18 + (0 + 1 + 1 + 1 + 1 + 1 + 1 + 1) = zg_B G + 25 by omega, ms_a13, ms_a13]
  · rw [show zg_B G + 18 + (0 + 1 + 1 + 1 + 1 + 1 + 1 + 1 + 1) = zg_B G + 26 by omega, ms_a15, ms_a15]
  · rw [show zg_B G + 18 + (0 + 1 + 1 + 1 + 1 + 1 + 1 + 1 + 1 + 1) = zg_B G + 27 by omega, ms_a17, ms_a17]
  · omega
theorem ms_same {f2 : Nat → va_E} (e : f = ms G f σ) (h : ∀ a : Nat, zg_B G + 18 ≤ a → a < zg_B G + 28 → f2 a = f a) : f2 = ms G f2 σ := by
  funext a
  by_cases ha : a < zg_B G + 18 ∨ zg_B G + 28 ≤ a
  · rw [ms_else G f2 σ ha]
  · rw [h a (by omega) (by omega), ms_at G f2 f σ (by omega) (by omega)]
    exact congrFun e a
theorem cP_cg (h : cP G f nn σ R P ra pa) (hh : ∀ a : Nat, (a < zg_B G + 18 ∨ zg_B G + 28 ≤ a) → f2 a = f a) : cP G f2 nn σ R P ra pa := by
  refine cP_gen h ((hh _ (by omega)).trans (c_o h)) ?_ ((hh _ (by omega)).trans h.2.2.2.1) ?_ (hh _ (by omega)) (fun j hj => ?_) ((hh _ (by omega)).trans (c_f h)) (fun a ha => hh a (by omega)) rfl rfl rfl rfl
  · obtain ⟨rg, x, y⟩ := c_r h
    exact ⟨rg, (hh _ (by omega)).trans x, y⟩
  · obtain ⟨x, y, z, e⟩ := c_h h
    exact ⟨x, y, z, (hh _ (by omega)).trans e⟩
  · obtain ⟨oc, x, y⟩ := c_t h j hj
    exact ⟨oc, (hh _ (by omega)).trans x, y⟩
theorem ms_ms (G : zh_G) (f : Nat → va_E) (σ2 : sg) : ms G f σ2 = ms G (ms G f σ2) σ2 := by
  funext a
  by_cases ha : a < zg_B G + 18 ∨ zg_B G + 28 ≤ a
  · exact (ms_else G (ms G f σ2) σ2 ha).symm
  · exact ms_at G f (ms G f σ2) σ2 (by omega) (by omega)
theorem LI_of (h : LI2 G f nn σ σ2 R) : ∃ R2 : Nat, R2 ≤ R + 1 ∧ LI G (ms G f σ2) nn σ2 R2 := by
  obtain ⟨e, R2, P2, N2, D2, ra, pa, hR, hi, hp⟩ := h
  exact ⟨R2, hR, ms_ms G f σ2, P2, N2, D2, ra, pa, hi, cP_cg hp (fun a ha => ms_else G f σ2 ha)⟩
/-- a call of the class's method -/
theorem zL_X {y1 : MethodName} {cc1 : ByteArray} {n1 d1 k mc1 ms1 idx : Nat} {r1 : Option FieldType} {As rest : List Value} {v0 : Option Value} (he : f = ms G f σ) (h : cP G f nn σ R P ra pa) (hm : zm y.cls idx y1 cc1 n1 r1 k) (hs : Cond.instanceMethod y1 ∈ zw ∧ Cond.selects y1.cls y1 y1 ∈ zw) (hcn : RX7 = y1.cls) (hM : zc G l y1 cc1 n1 r1 d1 (.ref (zg_B G) :: As) (f, nn) mc1 ms1 (cZ G f σ2 R v0)) (hst : st = As.reverse ++ .ref (zg_B G) :: rest) (hk : As.length = k) (hcat : (rest.map fun v => v.category).sum ≤ 8) (hdd : d1 + 1 ≤ d) (hd : decode cc pc = .ok (.invokevirtual idx, 3)) (kk : ∀ (f1 : Nat → va_E) (n1 : Nat), LI2 G f1 n1 σ σ2 R → zv G l y cc n r d mc ms0 (pc + 3) lv (v0.toList ++ rest) (f1, n1) Q) : zv G l y cc n r d (mc1 + mc) (ms1 + ms0) pc lv st (f, nn) Q := by
  refine zv_callV (ci := 5) (fs := cob (zg_B G) σ) hm hs (c_o h) (Nat.le_refl _) (c_b (x := 0) (by decide) h) rfl hcn hM hst hk hcat hdd hd (fun v h' q => ?_)
  obtain ⟨f1, n1⟩ := h'
  obtain ⟨rfl, ⟨R2, P2, N2, D2, ra2, pa2, hR, hi, hp⟩, hk⟩ := q
  exact kk f1 n1 ⟨ms_same he hk, R2, P2, N2, D2, ra2, pa2, hR, hi, hp⟩
/-- a call of the reference's method -/
theorem zL_M {y1 : MethodName} {cc1 : ByteArray} {n1 d1 k idx : Nat} {r1 : Option FieldType} {As rest : List Value} {v0 : Option Value} (h : LI2 G f nn σ σ2 R) (hm : zm y.cls idx y1 cc1 n1 r1 k) (hs : Cond.instanceMethod y1 ∈ zw ∧ Cond.selects y1.cls y1 y1 ∈ zw) (hcn : RX8 = y1.cls) (hM : zg_B G + 28 ≤ nn → zc G l y1 cc1 n1 r1 d1 (.ref (zg_B G + 18) :: As) (ms G f σ, nn) 0 0 (fun o h' => o = v0 ∧ h' = (ms G f σ2, nn))) (hst : st = As.reverse ++ .ref (zg_B G + 18) :: rest) (hk : As.length = k) (hcat : (rest.map fun v => v.category).sum ≤ 8) (hdd : d1 + 1 ≤ d) (hd : decode cc pc = .ok (.invokevirtual idx, 3)) (kk : ∀ (R2 : Nat), R2 ≤ R + 1 → LI G (ms G f σ2) nn σ2 R2 → zv G l y cc n r d mc ms0 (pc + 3) lv (v0.toList ++ rest) (ms G f σ2, nn) Q) : zv G l y cc n r d mc ms0 pc lv st (f, nn) Q := by
  obtain ⟨R2, hR, hL⟩ := LI_of h
  obtain ⟨e, R3, P3, N3, D3, ra, pa, -, -, hp⟩ := h
  have hn := hp.1
  have z : zv G l y cc n r d (0 + mc) (0 + ms0) pc lv st (ms G f σ, nn) Q := zv_callVq (ci := 6) (fs := mo (zg_B G) σ) hm hs (ms_o G f σ) (by omega) (by show zg_B G + 18 < nn; omega) rfl hcn (hM hn) hst hk hcat hdd hd (kk R2 hR hL)
  rw [← e, Nat.zero_add, Nat.zero_add] at z
  exact z
end LAW
