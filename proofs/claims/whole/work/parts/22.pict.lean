/-! the class's picture: what its cells hold when the reference's state is σ -/
def adr (ra pa : Nat → Nat) (t w : Int32) : Option Nat := if t = 2 then some (pa w.toNatClampNeg) else if t = 3 then some (ra w.toNatClampNeg) else none
def adp (ra pa : Nat → Nat) (K : Int32) (v : Int64) : Option Nat := if v = 0 then none else if K = 10 then some (ra (v - 1).toInt32.toNatClampNeg) else some (pa v.toInt32.toNatClampNeg)
def tw (R P : Nat) (t w : Int32) : Prop := t = 0 ∨ (t = 2 ∧ ∃ p : Nat, 1 ≤ p ∧ p ≤ P ∧ w = nI p) ∨ (t = 3 ∧ ∃ q : Nat, q < R ∧ w = nI q)
def pv (A : Nat → Nat → Int32) (R P : Nat) (K : Int32) (v : Int64) : Prop := (K < 8 → s_as K v = v) ∧ (¬ K < 8 → v = 0 ∨ (¬ K = 10 ∧ ∃ p : Nat, 1 ≤ p ∧ p ≤ P ∧ v = lN p ∧ (K = 9 → ¬ A 7 p = 0)) ∨ (K = 10 ∧ ∃ q : Nat, q < R ∧ v = lN (q + 1) ∧ A 9 q = 4))
def gv (A : Nat → Nat → Int32) (R P : Nat) (h k : Int32) (v : Int64) (w : Int32) : Prop := h = 0 ∨ (h = 1 ∧ (∃ j : Nat, j < 8 ∧ k = nI j) ∧ s_as k v = v) ∨ (h = 2 ∧ ∃ p : Nat, 1 ≤ p ∧ p ≤ P ∧ w = nI p) ∨ (h = 3 ∧ ∃ q : Nat, q < R ∧ w = nI q ∧ A 9 q = 4)
def rv (σ : sg) (R P q : Nat) : Prop := (∃ k : Nat, k ≤ 10 ∧ σ.2.2.1 9 q = nI k) ∧ (∃ s : Nat, s ≤ 16 ∧ σ.2.2.1 10 q = nI s) ∧ ∀ j : Nat, j < 16 → pv σ.2.2.1 R P (σ.2.2.1 9 q) (σ.2.2.2 (16 * q + j))
def stp (σ : sg) (k : Nat) : Prop := (∃ a : Nat, a < 10 ∧ σ.2.2.1 13 (5 * k + 1) = nI a) ∧ (∃ b : Nat, b < 10 ∧ σ.2.2.1 13 (5 * k + 3) = nI b) ∧ (∃ j : Nat, j < 8 ∧ σ.2.2.1 13 (5 * k + 4) = nI j)
def iv (σ : sg) (R P N D : Nat) : Prop := (σ.1 8 = nI R ∧ R ≤ 4000) ∧ (σ.1 6 = nI P ∧ P ≤ 40) ∧ (σ.1 12 = nI N ∧ N ≤ 12) ∧ (σ.1 14 = nI D ∧ D ≤ N) ∧ (∀ r : Nat, r < 10 → tw R P (σ.2.2.1 0 r) (σ.2.2.1 1 r)) ∧ gv σ.2.2.1 R P (σ.1 2) (σ.1 3) σ.2.1 (σ.1 5) ∧ (∀ q : Nat, q < R → rv σ R P q) ∧ (∀ k : Nat, k < 12 → stp σ k)
def hcell (ra pa : Nat → Nat) (σ : sg) : va_E := .inr (0, [.int (s_has σ), .long (s_val σ), va_rf (adr ra pa (σ.1 2) (σ.1 5))])
def cob (B : Nat) (σ : sg) : List Value := [.ref (B + 1), .ref (B + 2), .ref (B + 3), .ref (B + 4), .ref (B + 17), .int (σ.1 12), .int (σ.1 6), .int (σ.1 16)]
def rowp (G : zh_G) (f : Nat → va_E) (nn : Nat) (σ : sg) (ra pa : Nat → Nat) (q : Nat) : Prop := (zg_B G + 28 ≤ ra q ∧ ra q + 1 < nn) ∧
  (σ.2.2.1 9 q < 8 → f (ra q) = .inr (1, [.int (σ.2.2.1 9 q), .int (σ.2.2.1 10 q), .ref (ra q + 1)]) ∧ ∃ num : Nat → Int64, f (ra q + 1) = .inl (zg_c G 1, (σ.2.2.1 10 q).toNatClampNeg, .inr (.inl num)) ∧ ∀ j : Nat, j < (σ.2.2.1 10 q).toNatClampNeg → num j = σ.2.2.2 (16 * q + j)) ∧
  (¬ σ.2.2.1 9 q < 8 → f (ra q) = .inr (4, [.int (σ.2.2.1 9 q), .int (σ.2.2.1 10 q), .ref (ra q + 1)]) ∧ ∃ thg : Nat → Option Nat, f (ra q + 1) = .inl (zg_c G 3, (σ.2.2.1 10 q).toNatClampNeg, .inr (.inr (.inr (.inr thg)))) ∧ ∀ j : Nat, j < (σ.2.2.1 10 q).toNatClampNeg → thg j = adp ra pa (σ.2.2.1 9 q) (σ.2.2.2 (16 * q + j)))
def stpp (G : zh_G) (f : Nat → va_E) (σ : sg) (k : Nat) : Prop := ∃ oc : Int32, f (zg_B G + 5 + k) = .inr (3, [.int (σ.2.2.1 13 (5 * k)), .int (σ.2.2.1 13 (5 * k + 1)), .int (σ.2.2.1 13 (5 * k + 2)), .int (σ.2.2.1 13 (5 * k + 3)), .int (σ.2.2.1 13 (5 * k + 4)), .int oc]) ∧ (nI k < σ.1 12 → oc = if nI k < σ.1 14 then σ.2.2.1 15 k else -9)
def prbp (G : zh_G) (f : Nat → va_E) (nn : Nat) (σ : sg) (pa : Nat → Nat) (p : Nat) : Prop := (zg_B G + 28 ≤ pa p ∧ pa p < nn) ∧ f (pa p) = .inr (2, [.int (nI p), .int (σ.2.2.1 7 p)])
def cP (G : zh_G) (f : Nat → va_E) (nn : Nat) (σ : sg) (R P : Nat) (ra pa : Nat → Nat) : Prop :=
  zg_B G + 28 ≤ nn ∧ f (zg_B G) = .inr (5, cob (zg_B G) σ) ∧ (∃ rg : Nat → Option Nat, f (zg_B G + 1) = .inl (zg_c G 3, 10, .inr (.inr (.inr (.inr rg)))) ∧ ∀ r : Nat, r < 10 → rg r = adr ra pa (σ.2.2.1 0 r) (σ.2.2.1 1 r)) ∧ f (zg_B G + 2) = hcell ra pa σ ∧ (∃ (hk : Int32) (hv : Int64) (ht : Option Nat), f (zg_B G + 3) = .inr (0, [.int hk, .long hv, va_rf ht])) ∧
  f (zg_B G + 4) = .inl (zg_c G 4, 12, .inr (.inr (.inr (.inr (fun k => if k < 12 then some (zg_B G + 5 + k) else none))))) ∧ (∀ k : Nat, k < 12 → stpp G f σ k) ∧ f (zg_B G + 17) = .inl (zg_c G 0, 4, .inl (σ.2.2.1 17)) ∧ (∀ q : Nat, q < R → rowp G f nn σ ra pa q) ∧ (∀ p : Nat, 1 ≤ p → p ≤ P → prbp G f nn σ pa p) ∧
  (∀ q q' : Nat, q < R → q' < R → ra q = ra q' → q = q') ∧ (∀ p p' : Nat, 1 ≤ p → p ≤ P → 1 ≤ p' → p' ≤ P → pa p = pa p' → p = p')
/-- what a method of the class leaves: its answer, the picture, the reference's cells untouched -/
def cN (G : zh_G) (f0 : Nat → va_E) (nn : Nat) (σ : sg) (R P : Nat) (ra pa : Nat → Nat) (v : Option Value) : Option Value → zh_H → Prop := fun o h' => o = v ∧ h'.2 = nn ∧ cP G h'.1 nn σ R P ra pa ∧ ∀ a : Nat, zg_B G + 18 ≤ a → a < zg_B G + 28 → h'.1 a = f0 a
theorem vne {f : Nat → va_E} {a b : Nat} {e : va_E} (h : ¬ b = a) : va_up f a e b = f b := by simp [va_up, h]
theorem veq {f : Nat → va_E} {a : Nat} {e : va_E} : va_up f a e a = e := by simp [va_up]
theorem rowp_ne {G : zh_G} {f : Nat → va_E} {nn : Nat} {σ : sg} {ra pa : Nat → Nat} {q x : Nat} {e : va_E} (h : rowp G f nn σ ra pa q) (h1 : ¬ ra q = x) (h2 : ¬ ra q + 1 = x) : rowp G (va_up f x e) nn σ ra pa q := by
  unfold rowp at *
  rw [vne h1, vne h2]
  exact h
theorem prbp_ne {G : zh_G} {f : Nat → va_E} {nn : Nat} {σ : sg} {pa : Nat → Nat} {p x : Nat} {e : va_E} (h : prbp G f nn σ pa p) (h1 : ¬ pa p = x) : prbp G (va_up f x e) nn σ pa p := by
  unfold prbp at *
  rw [vne h1]
  exact h
theorem stpp_ne {G : zh_G} {f : Nat → va_E} {σ : sg} {k x : Nat} {e : va_E} (h : stpp G f σ k) (h1 : ¬ zg_B G + 5 + k = x) : stpp G (va_up f x e) σ k := by
  unfold stpp at *
  rw [vne h1]
  exact h
section PIC
variable {G : zh_G} {f : Nat → va_E} {nn : Nat} {σ : sg} {R P : Nat} {ra pa : Nat → Nat}
/-- a write at one of the fixed cells leaves rows, probes and steps -/
theorem cP_low (h : cP G f nn σ R P ra pa) {x : Nat} (hx : x < zg_B G + 28) (e : va_E) : (∀ q : Nat, q < R → rowp G (va_up f x e) nn σ ra pa q) ∧ (∀ p : Nat, 1 ≤ p → p ≤ P → prbp G (va_up f x e) nn σ pa p) := by
  obtain ⟨h1, h2, h3, h4, h5, h6, h7, h8, h9, h10, h11⟩ := h
  refine ⟨fun q hq => rowp_ne (h9 q hq) ?_ ?_, fun p hp1 hp2 => prbp_ne (h10 p hp1 hp2) ?_⟩
  · have := (h9 q hq).1; omega
  · have := (h9 q hq).1; omega
  · have := (h10 p hp1 hp2).1; omega
theorem cP_hand (h : cP G f nn σ R P ra pa) (a : Int32) (b : Int64) (c : Option Nat) : cP G (va_up f (zg_B G + 3) (.inr (0, [.int a, .long b, va_rf c]))) nn σ R P ra pa := by
  obtain ⟨l1, l2⟩ := cP_low h (x := zg_B G + 3) (by omega) (.inr (0, [.int a, .long b, va_rf c]))
  obtain ⟨h1, h2, h3, h4, h5, h6, h7, h8, h9, h10, h11⟩ := h
  refine ⟨h1, by rw [vne (by omega)]; exact h2, h3.imp (fun rg h => ⟨by rw [vne (by omega)]; exact h.1, h.2⟩), by rw [vne (by omega)]; exact h4, ⟨a, b, c, veq⟩, by rw [vne (by omega)]; exact h6, fun k hk => stpp_ne (h7 k hk) (by omega), by rw [vne (by omega)]; exact h8, l1, l2, h11⟩
theorem rowp_sg {σ2 : sg} {q : Nat} (hA : σ2.2.2 = σ.2.2) (h : rowp G f nn σ ra pa q) : rowp G f nn σ2 ra pa q := by
  unfold rowp at *; rw [hA]; exact h
theorem prbp_sg {σ2 : sg} {p : Nat} (hA : σ2.2.2 = σ.2.2) (h : prbp G f nn σ pa p) : prbp G f nn σ2 pa p := by
  unfold prbp at *; rw [hA]; exact h
theorem stpp_sg {σ2 : sg} {k : Nat} (hA : σ2.2.2 = σ.2.2) (h12 : σ2.1 12 = σ.1 12) (h14 : σ2.1 14 = σ.1 14) (h : stpp G f σ k) : stpp G f σ2 k := by
  unfold stpp at *; rw [hA, h12, h14]; exact h
theorem cP_gauge (h : cP G f nn σ R P ra pa) {σ2 : sg} (hA : σ2.2.2 = σ.2.2) (h12 : σ2.1 12 = σ.1 12) (h6' : σ2.1 6 = σ.1 6) (h16 : σ2.1 16 = σ.1 16) (h14 : σ2.1 14 = σ.1 14) : cP G (va_up f (zg_B G + 2) (hcell ra pa σ2)) nn σ2 R P ra pa := by
  obtain ⟨l1, l2⟩ := cP_low h (x := zg_B G + 2) (by omega) (hcell ra pa σ2)
  obtain ⟨h1, h2, h3, h4, h5, h6, h7, h8, h9, h10, h11⟩ := h
  refine ⟨h1, by rw [vne (by omega), h2]; unfold cob; rw [h12, h6', h16], h3.imp (fun rg h => ⟨by rw [vne (by omega)]; exact h.1, by rw [hA]; exact h.2⟩), veq, by rw [vne (by omega)]; exact h5, by rw [vne (by omega)]; exact h6, fun k hk => stpp_sg hA h12 h14 (stpp_ne (h7 k hk) (by omega)), by rw [vne (by omega), hA]; exact h8, fun q hq => rowp_sg hA (l1 q hq), fun p hp1 hp2 => prbp_sg hA (l2 p hp1 hp2), h11⟩
/-- numbers of the reference alone (found.. and the like) -/
theorem cP_sg (h : cP G f nn σ R P ra pa) {σ2 : sg} (hA : σ2.2.2 = σ.2.2) (h12 : σ2.1 12 = σ.1 12) (h6' : σ2.1 6 = σ.1 6) (h16 : σ2.1 16 = σ.1 16) (h14 : σ2.1 14 = σ.1 14) (h2' : σ2.1 2 = σ.1 2) (h3' : σ2.1 3 = σ.1 3) (h5' : σ2.1 5 = σ.1 5) (hv : σ2.2.1 = σ.2.1) : cP G f nn σ2 R P ra pa := by
  have hh : hcell ra pa σ2 = hcell ra pa σ := by unfold hcell s_has s_val xF xS; rw [hA, h2', h3', h5', hv]
  obtain ⟨h1, h2, h3, h4, h5, h6, h7, h8, h9, h10, h11⟩ := h
  refine ⟨h1, by rw [h2]; unfold cob; rw [h12, h6', h16], by rw [hA]; exact h3, by rw [hh]; exact h4, h5, h6, fun k hk => stpp_sg hA h12 h14 (h7 k hk), by rw [hA]; exact h8, fun q hq => rowp_sg hA (h9 q hq), fun p hp1 hp2 => prbp_sg hA (h10 p hp1 hp2), h11⟩
end PIC
