section ZX
variable {G : zh_G} {l : Launch} {y : MethodName} {cc : ByteArray} {n : Nat} {r : Option FieldType} {d mc ms0 pc : Nat} {lv : List (Nat × Value)} {st : List Value} {h : zh_H} {Q : Option Value → zh_H → Prop}
theorem zv_l2f {x : Int64} (hd : decode cc pc = .ok (.l2f, 1)) (kk : zv G l y cc n r d mc ms0 (pc + 1) lv (.float (FP.l2f x) :: st) h Q) : zv G l y cc n r d mc ms0 pc lv (.long x :: st) h Q := by
  intro p e R s m args below meth c Qf C H locs cells slots ls hW hL h1 h2 hl
  exact lv_l2f C.1.1 C.1.2.1 hd (kk p e R s m args below meth c Qf C H locs cells slots ls hW hL h1 h2 hl)
theorem zv_f2l {x : UInt32} (hd : decode cc pc = .ok (.f2l, 1)) (kk : zv G l y cc n r d mc ms0 (pc + 1) lv (.long (FP.f2l x) :: st) h Q) : zv G l y cc n r d mc ms0 pc lv (.float x :: st) h Q := by
  intro p e R s m args below meth c Qf C H locs cells slots ls hW hL h1 h2 hl
  exact lv_f2l C.1.1 C.1.2.1 hd (kk p e R s m args below meth c Qf C H locs cells slots ls hW hL h1 h2 hl)
theorem zv_l2d {x : Int64} (hd : decode cc pc = .ok (.l2d, 1)) (kk : zv G l y cc n r d mc ms0 (pc + 1) lv (.double (FP.l2d x) :: st) h Q) : zv G l y cc n r d mc ms0 pc lv (.long x :: st) h Q := by
  intro p e R s m args below meth c Qf C H locs cells slots ls hW hL h1 h2 hl
  exact lv_l2d C.1.1 C.1.2.1 hd (kk p e R s m args below meth c Qf C H locs cells slots ls hW hL h1 h2 hl)
theorem zv_d2l {x : UInt64} (hd : decode cc pc = .ok (.d2l, 1)) (kk : zv G l y cc n r d mc ms0 (pc + 1) lv (.long (FP.d2l x) :: st) h Q) : zv G l y cc n r d mc ms0 pc lv (.double x :: st) h Q := by
  intro p e R s m args below meth c Qf C H locs cells slots ls hW hL h1 h2 hl
  exact lv_d2l C.1.1 C.1.2.1 hd (kk p e R s m args below meth c Qf C H locs cells slots ls hW hL h1 h2 hl)
theorem zv_dup2 {va vb : Value} (hd : decode cc pc = .ok (.dup2, 1)) (ha : va.category = 1) (hb : vb.category = 1) (kk : zv G l y cc n r d mc ms0 (pc + 1) lv (va :: vb :: va :: vb :: st) h Q) : zv G l y cc n r d mc ms0 pc lv (va :: vb :: st) h Q := by
  intro p e R s m args below meth c Qf C H locs cells slots ls hW hL h1 h2 hl
  exact lv_dup2_11 C.1.1 C.1.2.1 hd ha hb (kk p e R s m args below meth c Qf C H locs cells slots ls hW hL h1 h2 hl)
end ZX
/-- the reference's state: its int fields by slot, hasValue, its int arrays by slot, its places -/
abbrev sg : Type := (Nat → Int32) × Int64 × (Nat → Nat → Int32) × (Nat → Int64)
def si (σ : sg) (k : Nat) (x : Int32) : sg := (upd σ.1 k x, σ.2)
def sv (σ : sg) (v : Int64) : sg := (σ.1, v, σ.2.2)
def sa (σ : sg) (k i : Nat) (x : Int32) : sg := (σ.1, σ.2.1, va_up σ.2.2.1 k (upd (σ.2.2.1 k) i x), σ.2.2.2)
def sp (σ : sg) (i : Nat) (v : Int64) : sg := (σ.1, σ.2.1, σ.2.2.1, vp_updL σ.2.2.2 i v)
def mo (B : Nat) (σ : sg) : List Value := [.ref (B + 19), .ref (B + 20), .int (σ.1 2), .int (σ.1 3), .long σ.2.1, .int (σ.1 5), .int (σ.1 6), .ref (B + 21), .int (σ.1 8), .ref (B + 22), .ref (B + 23), .ref (B + 24), .int (σ.1 12), .ref (B + 25), .int (σ.1 14), .ref (B + 26), .int (σ.1 16), .ref (B + 27), .int (σ.1 18), .int (σ.1 19)]
def ms (G : zh_G) (g : Nat → va_E) (σ : sg) : Nat → va_E := fun a =>
  if a = zg_B G + 18 then .inr (6, mo (zg_B G) σ)
  else if a = zg_B G + 19 then .inl (zg_c G 0, 10, .inl (σ.2.2.1 0))
  else if a = zg_B G + 20 then .inl (zg_c G 0, 10, .inl (σ.2.2.1 1))
  else if a = zg_B G + 21 then .inl (zg_c G 2, 41, .inl (σ.2.2.1 7))
  else if a = zg_B G + 22 then .inl (zg_c G 0, 5000, .inl (σ.2.2.1 9))
  else if a = zg_B G + 23 then .inl (zg_c G 0, 5000, .inl (σ.2.2.1 10))
  else if a = zg_B G + 24 then .inl (zg_c G 1, 80000, .inr (.inl σ.2.2.2))
  else if a = zg_B G + 25 then .inl (zg_c G 0, 60, .inl (σ.2.2.1 13))
  else if a = zg_B G + 26 then .inl (zg_c G 0, 12, .inl (σ.2.2.1 15))
  else if a = zg_B G + 27 then .inl (zg_c G 0, 4, .inl (σ.2.2.1 17))
  else g a
section ZM
variable {G : zh_G} {l : Launch} {y : MethodName} {cc : ByteArray} {n : Nat} {r : Option FieldType} {d mc ms0 pc : Nat} {lv : List (Nat × Value)} {st : List Value} {Q : Option Value → zh_H → Prop} {g : Nat → va_E} {σ : sg} {nn : Nat}
theorem ms_o (G : zh_G) (g : Nat → va_E) (σ : sg) : ms G g σ (zg_B G + 18) = .inr (6, mo (zg_B G) σ) := by simp [ms]
theorem ms_a0 (G : zh_G) (g : Nat → va_E) (σ : sg) : ms G g σ (zg_B G + 19) = .inl (zg_c G 0, 10, .inl (σ.2.2.1 0)) := by simp [ms]
theorem ms_a1 (G : zh_G) (g : Nat → va_E) (σ : sg) : ms G g σ (zg_B G + 20) = .inl (zg_c G 0, 10, .inl (σ.2.2.1 1)) := by simp [ms]
theorem ms_a7 (G : zh_G) (g : Nat → va_E) (σ : sg) : ms G g σ (zg_B G + 21) = .inl (zg_c G 2, 41, .inl (σ.2.2.1 7)) := by simp [ms]
theorem ms_a9 (G : zh_G) (g : Nat → va_E) (σ : sg) : ms G g σ (zg_B G + 22) = .inl (zg_c G 0, 5000, .inl (σ.2.2.1 9)) := by simp [ms]
theorem ms_a10 (G : zh_G) (g : Nat → va_E) (σ : sg) : ms G g σ (zg_B G + 23) = .inl (zg_c G 0, 5000, .inl (σ.2.2.1 10)) := by simp [ms]
theorem ms_a11 (G : zh_G) (g : Nat → va_E) (σ : sg) : ms G g σ (zg_B G + 24) = .inl (zg_c G 1, 80000, .inr (.inl σ.2.2.2)) := by simp [ms]
theorem ms_a13 (G : zh_G) (g : Nat → va_E) (σ : sg) : ms G g σ (zg_B G + 25) = .inl (zg_c G 0, 60, .inl (σ.2.2.1 13)) := by simp [ms]
theorem ms_a15 (G : zh_G) (g : Nat → va_E) (σ : sg) : ms G g σ (zg_B G + 26) = .inl (zg_c G 0, 12, .inl (σ.2.2.1 15)) := by simp [ms]
theorem ms_a17 (G : zh_G) (g : Nat → va_E) (σ : sg) : ms G g σ (zg_B G + 27) = .inl (zg_c G 0, 4, .inl (σ.2.2.1 17)) := by simp [ms]
theorem ms_else (G : zh_G) (g : Nat → va_E) (σ : sg) {a : Nat} (h : a < zg_B G + 18 ∨ zg_B G + 28 ≤ a) : ms G g σ a = g a := by
  unfold ms
  rw [if_neg (by omega)]
  rw [if_neg (by omega)]
  rw [if_neg (by omega)]
  rw [if_neg (by omega)]
  rw [if_neg (by omega)]
  rw [if_neg (by omega)]
  rw [if_neg (by omega)]
  rw [if_neg (by omega)]
  rw [if_neg (by omega)]
  rw [if_neg (by omega)]
theorem zM_get (hn : zg_B G + 28 ≤ nn) {idx k : Nat} {v : Value} (hf : zf y.cls idx 6 k) (hv : (mo (zg_B G) σ)[k]? = some v) (hd : decode cc pc = .ok (.getfield idx, 3)) (kk : zv G l y cc n r d mc ms0 (pc + 3) lv (v :: st) (ms G g σ, nn) Q) : zv G l y cc n r d mc ms0 pc lv (.ref (zg_B G + 18) :: st) (ms G g σ, nn) Q := zv_get hf (ms_o G g σ) (by omega) (show zg_B G + 18 < nn by omega) hv hd kk
theorem ms_put2 (G : zh_G) (g : Nat → va_E) (σ : sg) (x : Int32) : va_up (ms G g σ) (zg_B G + 18) (.inr (6, (mo (zg_B G) σ).set 2 (.int x))) = ms G g (si σ 2 x) := by
  funext a
  unfold va_up ms
  by_cases ha : a = zg_B G + 18
  · rw [if_pos ha, if_pos ha]; rfl
  · rw [if_neg ha, if_neg ha, if_neg ha]; rfl
theorem zM_put2 (hn : zg_B G + 28 ≤ nn) {idx : Nat} {x : Int32} (hf : zfw y.cls idx 6 2 .int false) (hd : decode cc pc = .ok (.putfield idx, 3)) (kk : zv G l y cc n r d mc ms0 (pc + 3) lv st (ms G g (si σ 2 x), nn) Q) : zv G l y cc n r d mc ms0 pc lv (.int x :: .ref (zg_B G + 18) :: st) (ms G g σ, nn) Q := by
  refine zv_put hf (ms_o G g σ) (by omega) (show zg_B G + 18 < nn by omega) rfl rfl (by simp [mo]) hd ?_
  show zv G l y cc n r d mc ms0 (pc + 3) lv st (va_up (ms G g σ) (zg_B G + 18) (.inr (6, (mo (zg_B G) σ).set 2 (.int x))), nn) Q
  rw [ms_put2]; exact kk
theorem ms_put3 (G : zh_G) (g : Nat → va_E) (σ : sg) (x : Int32) : va_up (ms G g σ) (zg_B G + 18) (.inr (6, (mo (zg_B G) σ).set 3 (.int x))) = ms G g (si σ 3 x) := by
  funext a
  unfold va_up ms
  by_cases ha : a = zg_B G + 18
  · rw [if_pos ha, if_pos ha]; rfl
  · rw [if_neg ha, if_neg ha, if_neg ha]; rfl
theorem zM_put3 (hn : zg_B G + 28 ≤ nn) {idx : Nat} {x : Int32} (hf : zfw y.cls idx 6 3 .int false) (hd : decode cc pc = .ok (.putfield idx, 3)) (kk : zv G l y cc n r d mc ms0 (pc + 3) lv st (ms G g (si σ 3 x), nn) Q) : zv G l y cc n r d mc ms0 pc lv (.int x :: .ref (zg_B G + 18) :: st) (ms G g σ, nn) Q := by
  refine zv_put hf (ms_o G g σ) (by omega) (show zg_B G + 18 < nn by omega) rfl rfl (by simp [mo]) hd ?_
  show zv G l y cc n r d mc ms0 (pc + 3) lv st (va_up (ms G g σ) (zg_B G + 18) (.inr (6, (mo (zg_B G) σ).set 3 (.int x))), nn) Q
  rw [ms_put3]; exact kk
theorem ms_put5 (G : zh_G) (g : Nat → va_E) (σ : sg) (x : Int32) : va_up (ms G g σ) (zg_B G + 18) (.inr (6, (mo (zg_B G) σ).set 5 (.int x))) = ms G g (si σ 5 x) := by
  funext a
  unfold va_up ms
  by_cases ha : a = zg_B G + 18
  · rw [if_pos ha, if_pos ha]; rfl
  · rw [if_neg ha, if_neg ha, if_neg ha]; rfl
theorem zM_put5 (hn : zg_B G + 28 ≤ nn) {idx : Nat} {x : Int32} (hf : zfw y.cls idx 6 5 .int false) (hd : decode cc pc = .ok (.putfield idx, 3)) (kk : zv G l y cc n r d mc ms0 (pc + 3) lv st (ms G g (si σ 5 x), nn) Q) : zv G l y cc n r d mc ms0 pc lv (.int x :: .ref (zg_B G + 18) :: st) (ms G g σ, nn) Q := by
  refine zv_put hf (ms_o G g σ) (by omega) (show zg_B G + 18 < nn by omega) rfl rfl (by simp [mo]) hd ?_
  show zv G l y cc n r d mc ms0 (pc + 3) lv st (va_up (ms G g σ) (zg_B G + 18) (.inr (6, (mo (zg_B G) σ).set 5 (.int x))), nn) Q
  rw [ms_put5]; exact kk
theorem ms_put6 (G : zh_G) (g : Nat → va_E) (σ : sg) (x : Int32) : va_up (ms G g σ) (zg_B G + 18) (.inr (6, (mo (zg_B G) σ).set 6 (.int x))) = ms G g (si σ 6 x) := by
  funext a
  unfold va_up ms
  by_cases ha : a = zg_B G + 18
  · rw [if_pos ha, if_pos ha]; rfl
  · rw [if_neg ha, if_neg ha, if_neg ha]; rfl
theorem zM_put6 (hn : zg_B G + 28 ≤ nn) {idx : Nat} {x : Int32} (hf : zfw y.cls idx 6 6 .int false) (hd : decode cc pc = .ok (.putfield idx, 3)) (kk : zv G l y cc n r d mc ms0 (pc + 3) lv st (ms G g (si σ 6 x), nn) Q) : zv G l y cc n r d mc ms0 pc lv (.int x :: .ref (zg_B G + 18) :: st) (ms G g σ, nn) Q := by
  refine zv_put hf (ms_o G g σ) (by omega) (show zg_B G + 18 < nn by omega) rfl rfl (by simp [mo]) hd ?_
  show zv G l y cc n r d mc ms0 (pc + 3) lv st (va_up (ms G g σ) (zg_B G + 18) (.inr (6, (mo (zg_B G) σ).set 6 (.int x))), nn) Q
  rw [ms_put6]; exact kk
theorem ms_put8 (G : zh_G) (g : Nat → va_E) (σ : sg) (x : Int32) : va_up (ms G g σ) (zg_B G + 18) (.inr (6, (mo (zg_B G) σ).set 8 (.int x))) = ms G g (si σ 8 x) := by
  funext a
  unfold va_up ms
  by_cases ha : a = zg_B G + 18
  · rw [if_pos ha, if_pos ha]; rfl
  · rw [if_neg ha, if_neg ha, if_neg ha]; rfl
theorem zM_put8 (hn : zg_B G + 28 ≤ nn) {idx : Nat} {x : Int32} (hf : zfw y.cls idx 6 8 .int false) (hd : decode cc pc = .ok (.putfield idx, 3)) (kk : zv G l y cc n r d mc ms0 (pc + 3) lv st (ms G g (si σ 8 x), nn) Q) : zv G l y cc n r d mc ms0 pc lv (.int x :: .ref (zg_B G + 18) :: st) (ms G g σ, nn) Q := by
  refine zv_put hf (ms_o G g σ) (by omega) (show zg_B G + 18 < nn by omega) rfl rfl (by simp [mo]) hd ?_
  show zv G l y cc n r d mc ms0 (pc + 3) lv st (va_up (ms G g σ) (zg_B G + 18) (.inr (6, (mo (zg_B G) σ).set 8 (.int x))), nn) Q
  rw [ms_put8]; exact kk
theorem ms_put12 (G : zh_G) (g : Nat → va_E) (σ : sg) (x : Int32) : va_up (ms G g σ) (zg_B G + 18) (.inr (6, (mo (zg_B G) σ).set 12 (.int x))) = ms G g (si σ 12 x) := by
  funext a
  unfold va_up ms
  by_cases ha : a = zg_B G + 18
  · rw [if_pos ha, if_pos ha]; rfl
  · rw [if_neg ha, if_neg ha, if_neg ha]; rfl
theorem zM_put12 (hn : zg_B G + 28 ≤ nn) {idx : Nat} {x : Int32} (hf : zfw y.cls idx 6 12 .int false) (hd : decode cc pc = .ok (.putfield idx, 3)) (kk : zv G l y cc n r d mc ms0 (pc + 3) lv st (ms G g (si σ 12 x), nn) Q) : zv G l y cc n r d mc ms0 pc lv (.int x :: .ref (zg_B G + 18) :: st) (ms G g σ, nn) Q := by
  refine zv_put hf (ms_o G g σ) (by omega) (show zg_B G + 18 < nn by omega) rfl rfl (by simp [mo]) hd ?_
  show zv G l y cc n r d mc ms0 (pc + 3) lv st (va_up (ms G g σ) (zg_B G + 18) (.inr (6, (mo (zg_B G) σ).set 12 (.int x))), nn) Q
  rw [ms_put12]; exact kk
theorem ms_put14 (G : zh_G) (g : Nat → va_E) (σ : sg) (x : Int32) : va_up (ms G g σ) (zg_B G + 18) (.inr (6, (mo (zg_B G) σ).set 14 (.int x))) = ms G g (si σ 14 x) := by
  funext a
  unfold va_up ms
  by_cases ha : a = zg_B G + 18
  · rw [if_pos ha, if_pos ha]; rfl
  · rw [if_neg ha, if_neg ha, if_neg ha]; rfl
theorem zM_put14 (hn : zg_B G + 28 ≤ nn) {idx : Nat} {x : Int32} (hf : zfw y.cls idx 6 14 .int false) (hd : decode cc pc = .ok (.putfield idx, 3)) (kk : zv G l y cc n r d mc ms0 (pc + 3) lv st (ms G g (si σ 14 x), nn) Q) : zv G l y cc n r d mc ms0 pc lv (.int x :: .ref (zg_B G + 18) :: st) (ms G g σ, nn) Q := by
  refine zv_put hf (ms_o G g σ) (by omega) (show zg_B G + 18 < nn by omega) rfl rfl (by simp [mo]) hd ?_
  show zv G l y cc n r d mc ms0 (pc + 3) lv st (va_up (ms G g σ) (zg_B G + 18) (.inr (6, (mo (zg_B G) σ).set 14 (.int x))), nn) Q
  rw [ms_put14]; exact kk
theorem ms_put16 (G : zh_G) (g : Nat → va_E) (σ : sg) (x : Int32) : va_up (ms G g σ) (zg_B G + 18) (.inr (6, (mo (zg_B G) σ).set 16 (.int x))) = ms G g (si σ 16 x) := by
  funext a
  unfold va_up ms
  by_cases ha : a = zg_B G + 18
  · rw [if_pos ha, if_pos ha]; rfl
  · rw [if_neg ha, if_neg ha, if_neg ha]; rfl
theorem zM_put16 (hn : zg_B G + 28 ≤ nn) {idx : Nat} {x : Int32} (hf : zfw y.cls idx 6 16 .int false) (hd : decode cc pc = .ok (.putfield idx, 3)) (kk : zv G l y cc n r d mc ms0 (pc + 3) lv st (ms G g (si σ 16 x), nn) Q) : zv G l y cc n r d mc ms0 pc lv (.int x :: .ref (zg_B G + 18) :: st) (ms G g σ, nn) Q := by
  refine zv_put hf (ms_o G g σ) (by omega) (show zg_B G + 18 < nn by omega) rfl rfl (by simp [mo]) hd ?_
  show zv G l y cc n r d mc ms0 (pc + 3) lv st (va_up (ms G g σ) (zg_B G + 18) (.inr (6, (mo (zg_B G) σ).set 16 (.int x))), nn) Q
  rw [ms_put16]; exact kk
theorem ms_put18 (G : zh_G) (g : Nat → va_E) (σ : sg) (x : Int32) : va_up (ms G g σ) (zg_B G + 18) (.inr (6, (mo (zg_B G) σ).set 18 (.int x))) = ms G g (si σ 18 x) := by
  funext a
  unfold va_up ms
  by_cases ha : a = zg_B G + 18
  · rw [if_pos ha, if_pos ha]; rfl
  · rw [if_neg ha, if_neg ha, if_neg ha]; rfl
theorem zM_put18 (hn : zg_B G + 28 ≤ nn) {idx : Nat} {x : Int32} (hf : zfw y.cls idx 6 18 .int false) (hd : decode cc pc = .ok (.putfield idx, 3)) (kk : zv G l y cc n r d mc ms0 (pc + 3) lv st (ms G g (si σ 18 x), nn) Q) : zv G l y cc n r d mc ms0 pc lv (.int x :: .ref (zg_B G + 18) :: st) (ms G g σ, nn) Q := by
  refine zv_put hf (ms_o G g σ) (by omega) (show zg_B G + 18 < nn by omega) rfl rfl (by simp [mo]) hd ?_
  show zv G l y cc n r d mc ms0 (pc + 3) lv st (va_up (ms G g σ) (zg_B G + 18) (.inr (6, (mo (zg_B G) σ).set 18 (.int x))), nn) Q
  rw [ms_put18]; exact kk
theorem ms_put19 (G : zh_G) (g : Nat → va_E) (σ : sg) (x : Int32) : va_up (ms G g σ) (zg_B G + 18) (.inr (6, (mo (zg_B G) σ).set 19 (.int x))) = ms G g (si σ 19 x) := by
  funext a
  unfold va_up ms
  by_cases ha : a = zg_B G + 18
  · rw [if_pos ha, if_pos ha]; rfl
  · rw [if_neg ha, if_neg ha, if_neg ha]; rfl
theorem zM_put19 (hn : zg_B G + 28 ≤ nn) {idx : Nat} {x : Int32} (hf : zfw y.cls idx 6 19 .int false) (hd : decode cc pc = .ok (.putfield idx, 3)) (kk : zv G l y cc n r d mc ms0 (pc + 3) lv st (ms G g (si σ 19 x), nn) Q) : zv G l y cc n r d mc ms0 pc lv (.int x :: .ref (zg_B G + 18) :: st) (ms G g σ, nn) Q := by
  refine zv_put hf (ms_o G g σ) (by omega) (show zg_B G + 18 < nn by omega) rfl rfl (by simp [mo]) hd ?_
  show zv G l y cc n r d mc ms0 (pc + 3) lv st (va_up (ms G g σ) (zg_B G + 18) (.inr (6, (mo (zg_B G) σ).set 19 (.int x))), nn) Q
  rw [ms_put19]; exact kk
theorem ms_put4 (G : zh_G) (g : Nat → va_E) (σ : sg) (x : Int64) : va_up (ms G g σ) (zg_B G + 18) (.inr (6, (mo (zg_B G) σ).set 4 (.long x))) = ms G g (sv σ x) := by
  funext a
  unfold va_up ms
  by_cases ha : a = zg_B G + 18
  · rw [if_pos ha, if_pos ha]; rfl
  · rw [if_neg ha, if_neg ha, if_neg ha]; rfl
theorem zM_put4 (hn : zg_B G + 28 ≤ nn) {idx : Nat} {x : Int64} (hf : zfw y.cls idx 6 4 .long false) (hd : decode cc pc = .ok (.putfield idx, 3)) (kk : zv G l y cc n r d mc ms0 (pc + 3) lv st (ms G g (sv σ x), nn) Q) : zv G l y cc n r d mc ms0 pc lv (.long x :: .ref (zg_B G + 18) :: st) (ms G g σ, nn) Q := by
  refine zv_put hf (ms_o G g σ) (by omega) (show zg_B G + 18 < nn by omega) rfl rfl (by simp [mo]) hd ?_
  show zv G l y cc n r d mc ms0 (pc + 3) lv st (va_up (ms G g σ) (zg_B G + 18) (.inr (6, (mo (zg_B G) σ).set 4 (.long x))), nn) Q
  rw [ms_put4]; exact kk
theorem zM_ald0 (hn : zg_B G + 28 ≤ nn) {i : Int32} (hin : vp_in i 10) (hd : decode cc pc = .ok (.iaload, 1)) (kk : zv G l y cc n r d mc ms0 (pc + 1) lv (.int (σ.2.2.1 0 i.toNatClampNeg) :: st) (ms G g σ, nn) Q) : zv G l y cc n r d mc ms0 pc lv (.int i :: .ref (zg_B G + 19) :: st) (ms G g σ, nn) Q := zv_iald (ms_a0 G g σ) (by omega) (show zg_B G + 19 < nn by omega) hin hd kk
theorem ms_st0 (G : zh_G) (g : Nat → va_E) (σ : sg) (j : Nat) (x : Int32) : va_up (ms G g σ) (zg_B G + 19) (.inl (zg_c G 0, 10, .inl (upd (σ.2.2.1 0) j x))) = ms G g (sa σ 0 j x) := by
  funext a
  unfold va_up ms
  by_cases ha : a = zg_B G + 19
  · subst ha; simp [sa, sp, va_up]
  · rw [if_neg ha]; simp only [sa, sp, va_up, mo]; simp [ha]
theorem zM_ast0 (hn : zg_B G + 28 ≤ nn) {i : Int32} {x : Int32} (hin : vp_in i 10) (hd : decode cc pc = .ok (.iastore, 1)) (kk : zv G l y cc n r d mc ms0 (pc + 1) lv st (ms G g (sa σ 0 i.toNatClampNeg x), nn) Q) : zv G l y cc n r d mc ms0 pc lv (.int x :: .int i :: .ref (zg_B G + 19) :: st) (ms G g σ, nn) Q := by
  refine zv_iast (ms_a0 G g σ) (by omega) (show zg_B G + 19 < nn by omega) hin hd ?_
  show zv G l y cc n r d mc ms0 (pc + 1) lv st (va_up (ms G g σ) (zg_B G + 19) (.inl (zg_c G 0, 10, .inl (upd (σ.2.2.1 0) i.toNatClampNeg x))), nn) Q
  rw [ms_st0]; exact kk
theorem zM_ald1 (hn : zg_B G + 28 ≤ nn) {i : Int32} (hin : vp_in i 10) (hd : decode cc pc = .ok (.iaload, 1)) (kk : zv G l y cc n r d mc ms0 (pc + 1) lv (.int (σ.2.2.1 1 i.toNatClampNeg) :: st) (ms G g σ, nn) Q) : zv G l y cc n r d mc ms0 pc lv (.int i :: .ref (zg_B G + 20) :: st) (ms G g σ, nn) Q := zv_iald (ms_a1 G g σ) (by omega) (show zg_B G + 20 < nn by omega) hin hd kk
theorem ms_st1 (G : zh_G) (g : Nat → va_E) (σ : sg) (j : Nat) (x : Int32) : va_up (ms G g σ) (zg_B G + 20) (.inl (zg_c G 0, 10, .inl (upd (σ.2.2.1 1) j x))) = ms G g (sa σ 1 j x) := by
  funext a
  unfold va_up ms
  by_cases ha : a = zg_B G + 20
  · subst ha; simp [sa, sp, va_up]
  · rw [if_neg ha]; simp only [sa, sp, va_up, mo]; simp [ha]
theorem zM_ast1 (hn : zg_B G + 28 ≤ nn) {i : Int32} {x : Int32} (hin : vp_in i 10) (hd : decode cc pc = .ok (.iastore, 1)) (kk : zv G l y cc n r d mc ms0 (pc + 1) lv st (ms G g (sa σ 1 i.toNatClampNeg x), nn) Q) : zv G l y cc n r d mc ms0 pc lv (.int x :: .int i :: .ref (zg_B G + 20) :: st) (ms G g σ, nn) Q := by
  refine zv_iast (ms_a1 G g σ) (by omega) (show zg_B G + 20 < nn by omega) hin hd ?_
  show zv G l y cc n r d mc ms0 (pc + 1) lv st (va_up (ms G g σ) (zg_B G + 20) (.inl (zg_c G 0, 10, .inl (upd (σ.2.2.1 1) i.toNatClampNeg x))), nn) Q
  rw [ms_st1]; exact kk
theorem zM_ald7 (hn : zg_B G + 28 ≤ nn) {i : Int32} (hin : vp_in i 41) (hd : decode cc pc = .ok (.baload, 1)) (kk : zv G l y cc n r d mc ms0 (pc + 1) lv (.int (σ.2.2.1 7 i.toNatClampNeg) :: st) (ms G g σ, nn) Q) : zv G l y cc n r d mc ms0 pc lv (.int i :: .ref (zg_B G + 21) :: st) (ms G g σ, nn) Q := zv_zald (ms_a7 G g σ) (by omega) (show zg_B G + 21 < nn by omega) hin hd kk
theorem ms_st7 (G : zh_G) (g : Nat → va_E) (σ : sg) (j : Nat) (x : Int32) : va_up (ms G g σ) (zg_B G + 21) (.inl (zg_c G 2, 41, .inl (upd (σ.2.2.1 7) j x))) = ms G g (sa σ 7 j x) := by
  funext a
  unfold va_up ms
  by_cases ha : a = zg_B G + 21
  · subst ha; simp [sa, sp, va_up]
  · rw [if_neg ha]; simp only [sa, sp, va_up, mo]; simp [ha]
theorem zM_ast7 (hn : zg_B G + 28 ≤ nn) {i : Int32} {x : Int32} (hin : vp_in i 41) (hnar : narrow .boolean (.int x) = .int x) (hd : decode cc pc = .ok (.bastore, 1)) (kk : zv G l y cc n r d mc ms0 (pc + 1) lv st (ms G g (sa σ 7 i.toNatClampNeg x), nn) Q) : zv G l y cc n r d mc ms0 pc lv (.int x :: .int i :: .ref (zg_B G + 21) :: st) (ms G g σ, nn) Q := by
  refine zv_zast (ms_a7 G g σ) (by omega) (show zg_B G + 21 < nn by omega) hin hnar hd ?_
  show zv G l y cc n r d mc ms0 (pc + 1) lv st (va_up (ms G g σ) (zg_B G + 21) (.inl (zg_c G 2, 41, .inl (upd (σ.2.2.1 7) i.toNatClampNeg x))), nn) Q
  rw [ms_st7]; exact kk
theorem zM_ald9 (hn : zg_B G + 28 ≤ nn) {i : Int32} (hin : vp_in i 5000) (hd : decode cc pc = .ok (.iaload, 1)) (kk : zv G l y cc n r d mc ms0 (pc + 1) lv (.int (σ.2.2.1 9 i.toNatClampNeg) :: st) (ms G g σ, nn) Q) : zv G l y cc n r d mc ms0 pc lv (.int i :: .ref (zg_B G + 22) :: st) (ms G g σ, nn) Q := zv_iald (ms_a9 G g σ) (by omega) (show zg_B G + 22 < nn by omega) hin hd kk
theorem ms_st9 (G : zh_G) (g : Nat → va_E) (σ : sg) (j : Nat) (x : Int32) : va_up (ms G g σ) (zg_B G + 22) (.inl (zg_c G 0, 5000, .inl (upd (σ.2.2.1 9) j x))) = ms G g (sa σ 9 j x) := by
  funext a
  unfold va_up ms
  by_cases ha : a = zg_B G + 22
  · subst ha; simp [sa, sp, va_up]
  · rw [if_neg ha]; simp only [sa, sp, va_up, mo]; simp [ha]
theorem zM_ast9 (hn : zg_B G + 28 ≤ nn) {i : Int32} {x : Int32} (hin : vp_in i 5000) (hd : decode cc pc = .ok (.iastore, 1)) (kk : zv G l y cc n r d mc ms0 (pc + 1) lv st (ms G g (sa σ 9 i.toNatClampNeg x), nn) Q) : zv G l y cc n r d mc ms0 pc lv (.int x :: .int i :: .ref (zg_B G + 22) :: st) (ms G g σ, nn) Q := by
  refine zv_iast (ms_a9 G g σ) (by omega) (show zg_B G + 22 < nn by omega) hin hd ?_
  show zv G l y cc n r d mc ms0 (pc + 1) lv st (va_up (ms G g σ) (zg_B G + 22) (.inl (zg_c G 0, 5000, .inl (upd (σ.2.2.1 9) i.toNatClampNeg x))), nn) Q
  rw [ms_st9]; exact kk
theorem zM_ald10 (hn : zg_B G + 28 ≤ nn) {i : Int32} (hin : vp_in i 5000) (hd : decode cc pc = .ok (.iaload, 1)) (kk : zv G l y cc n r d mc ms0 (pc + 1) lv (.int (σ.2.2.1 10 i.toNatClampNeg) :: st) (ms G g σ, nn) Q) : zv G l y cc n r d mc ms0 pc lv (.int i :: .ref (zg_B G + 23) :: st) (ms G g σ, nn) Q := zv_iald (ms_a10 G g σ) (by omega) (show zg_B G + 23 < nn by omega) hin hd kk
theorem ms_st10 (G : zh_G) (g : Nat → va_E) (σ : sg) (j : Nat) (x : Int32) : va_up (ms G g σ) (zg_B G + 23) (.inl (zg_c G 0, 5000, .inl (upd (σ.2.2.1 10) j x))) = ms G g (sa σ 10 j x) := by
  funext a
  unfold va_up ms
  by_cases ha : a = zg_B G + 23
  · subst ha; simp [sa, sp, va_up]
  · rw [if_neg ha]; simp only [sa, sp, va_up, mo]; simp [ha]
theorem zM_ast10 (hn : zg_B G + 28 ≤ nn) {i : Int32} {x : Int32} (hin : vp_in i 5000) (hd : decode cc pc = .ok (.iastore, 1)) (kk : zv G l y cc n r d mc ms0 (pc + 1) lv st (ms G g (sa σ 10 i.toNatClampNeg x), nn) Q) : zv G l y cc n r d mc ms0 pc lv (.int x :: .int i :: .ref (zg_B G + 23) :: st) (ms G g σ, nn) Q := by
  refine zv_iast (ms_a10 G g σ) (by omega) (show zg_B G + 23 < nn by omega) hin hd ?_
  show zv G l y cc n r d mc ms0 (pc + 1) lv st (va_up (ms G g σ) (zg_B G + 23) (.inl (zg_c G 0, 5000, .inl (upd (σ.2.2.1 10) i.toNatClampNeg x))), nn) Q
  rw [ms_st10]; exact kk
theorem zM_ald11 (hn : zg_B G + 28 ≤ nn) {i : Int32} (hin : vp_in i 80000) (hd : decode cc pc = .ok (.laload, 1)) (kk : zv G l y cc n r d mc ms0 (pc + 1) lv (.long (σ.2.2.2 i.toNatClampNeg) :: st) (ms G g σ, nn) Q) : zv G l y cc n r d mc ms0 pc lv (.int i :: .ref (zg_B G + 24) :: st) (ms G g σ, nn) Q := zv_lald (ms_a11 G g σ) (by omega) (show zg_B G + 24 < nn by omega) hin hd kk
theorem ms_st11 (G : zh_G) (g : Nat → va_E) (σ : sg) (j : Nat) (x : Int64) : va_up (ms G g σ) (zg_B G + 24) (.inl (zg_c G 1, 80000, .inr (.inl (vp_updL σ.2.2.2 j x)))) = ms G g (sp σ j x) := by
  funext a
  unfold va_up ms
  by_cases ha : a = zg_B G + 24
  · subst ha; simp [sa, sp, va_up]
  · rw [if_neg ha]; simp only [sa, sp, va_up, mo]; simp [ha]
theorem zM_ast11 (hn : zg_B G + 28 ≤ nn) {i : Int32} {x : Int64} (hin : vp_in i 80000) (hd : decode cc pc = .ok (.lastore, 1)) (kk : zv G l y cc n r d mc ms0 (pc + 1) lv st (ms G g (sp σ i.toNatClampNeg x), nn) Q) : zv G l y cc n r d mc ms0 pc lv (.long x :: .int i :: .ref (zg_B G + 24) :: st) (ms G g σ, nn) Q := by
  refine zv_last (ms_a11 G g σ) (by omega) (show zg_B G + 24 < nn by omega) hin hd ?_
  show zv G l y cc n r d mc ms0 (pc + 1) lv st (va_up (ms G g σ) (zg_B G + 24) (.inl (zg_c G 1, 80000, .inr (.inl (vp_updL σ.2.2.2 i.toNatClampNeg x)))), nn) Q
  rw [ms_st11]; exact kk
theorem zM_ald13 (hn : zg_B G + 28 ≤ nn) {i : Int32} (hin : vp_in i 60) (hd : decode cc pc = .ok (.iaload, 1)) (kk : zv G l y cc n r d mc ms0 (pc + 1) lv (.int (σ.2.2.1 13 i.toNatClampNeg) :: st) (ms G g σ, nn) Q) : zv G l y cc n r d mc ms0 pc lv (.int i :: .ref (zg_B G + 25) :: st) (ms G g σ, nn) Q := zv_iald (ms_a13 G g σ) (by omega) (show zg_B G + 25 < nn by omega) hin hd kk
theorem ms_st13 (G : zh_G) (g : Nat → va_E) (σ : sg) (j : Nat) (x : Int32) : va_up (ms G g σ) (zg_B G + 25) (.inl (zg_c G 0, 60, .inl (upd (σ.2.2.1 13) j x))) = ms G g (sa σ 13 j x) := by
  funext a
  unfold va_up ms
  by_cases ha : a = zg_B G + 25
  · subst ha; simp [sa, sp, va_up]
  · rw [if_neg ha]; simp only [sa, sp, va_up, mo]; simp [ha]
theorem zM_ast13 (hn : zg_B G + 28 ≤ nn) {i : Int32} {x : Int32} (hin : vp_in i 60) (hd : decode cc pc = .ok (.iastore, 1)) (kk : zv G l y cc n r d mc ms0 (pc + 1) lv st (ms G g (sa σ 13 i.toNatClampNeg x), nn) Q) : zv G l y cc n r d mc ms0 pc lv (.int x :: .int i :: .ref (zg_B G + 25) :: st) (ms G g σ, nn) Q := by
  refine zv_iast (ms_a13 G g σ) (by omega) (show zg_B G + 25 < nn by omega) hin hd ?_
  show zv G l y cc n r d mc ms0 (pc + 1) lv st (va_up (ms G g σ) (zg_B G + 25) (.inl (zg_c G 0, 60, .inl (upd (σ.2.2.1 13) i.toNatClampNeg x))), nn) Q
  rw [ms_st13]; exact kk
theorem zM_ald15 (hn : zg_B G + 28 ≤ nn) {i : Int32} (hin : vp_in i 12) (hd : decode cc pc = .ok (.iaload, 1)) (kk : zv G l y cc n r d mc ms0 (pc + 1) lv (.int (σ.2.2.1 15 i.toNatClampNeg) :: st) (ms G g σ, nn) Q) : zv G l y cc n r d mc ms0 pc lv (.int i :: .ref (zg_B G + 26) :: st) (ms G g σ, nn) Q := zv_iald (ms_a15 G g σ) (by omega) (show zg_B G + 26 < nn by omega) hin hd kk
theorem ms_st15 (G : zh_G) (g : Nat → va_E) (σ : sg) (j : Nat) (x : Int32) : va_up (ms G g σ) (zg_B G + 26) (.inl (zg_c G 0, 12, .inl (upd (σ.2.2.1 15) j x))) = ms G g (sa σ 15 j x) := by
  funext a
  unfold va_up ms
  by_cases ha : a = zg_B G + 26
  · subst ha; simp [sa, sp, va_up]
  · rw [if_neg ha]; simp only [sa, sp, va_up, mo]; simp [ha]
theorem zM_ast15 (hn : zg_B G + 28 ≤ nn) {i : Int32} {x : Int32} (hin : vp_in i 12) (hd : decode cc pc = .ok (.iastore, 1)) (kk : zv G l y cc n r d mc ms0 (pc + 1) lv st (ms G g (sa σ 15 i.toNatClampNeg x), nn) Q) : zv G l y cc n r d mc ms0 pc lv (.int x :: .int i :: .ref (zg_B G + 26) :: st) (ms G g σ, nn) Q := by
  refine zv_iast (ms_a15 G g σ) (by omega) (show zg_B G + 26 < nn by omega) hin hd ?_
  show zv G l y cc n r d mc ms0 (pc + 1) lv st (va_up (ms G g σ) (zg_B G + 26) (.inl (zg_c G 0, 12, .inl (upd (σ.2.2.1 15) i.toNatClampNeg x))), nn) Q
  rw [ms_st15]; exact kk
theorem zM_ald17 (hn : zg_B G + 28 ≤ nn) {i : Int32} (hin : vp_in i 4) (hd : decode cc pc = .ok (.iaload, 1)) (kk : zv G l y cc n r d mc ms0 (pc + 1) lv (.int (σ.2.2.1 17 i.toNatClampNeg) :: st) (ms G g σ, nn) Q) : zv G l y cc n r d mc ms0 pc lv (.int i :: .ref (zg_B G + 27) :: st) (ms G g σ, nn) Q := zv_iald (ms_a17 G g σ) (by omega) (show zg_B G + 27 < nn by omega) hin hd kk
theorem ms_st17 (G : zh_G) (g : Nat → va_E) (σ : sg) (j : Nat) (x : Int32) : va_up (ms G g σ) (zg_B G + 27) (.inl (zg_c G 0, 4, .inl (upd (σ.2.2.1 17) j x))) = ms G g (sa σ 17 j x) := by
  funext a
  unfold va_up ms
  by_cases ha : a = zg_B G + 27
  · subst ha; simp [sa, sp, va_up]
  · rw [if_neg ha]; simp only [sa, sp, va_up, mo]; simp [ha]
theorem zM_ast17 (hn : zg_B G + 28 ≤ nn) {i : Int32} {x : Int32} (hin : vp_in i 4) (hd : decode cc pc = .ok (.iastore, 1)) (kk : zv G l y cc n r d mc ms0 (pc + 1) lv st (ms G g (sa σ 17 i.toNatClampNeg x), nn) Q) : zv G l y cc n r d mc ms0 pc lv (.int x :: .int i :: .ref (zg_B G + 27) :: st) (ms G g σ, nn) Q := by
  refine zv_iast (ms_a17 G g σ) (by omega) (show zg_B G + 27 < nn by omega) hin hd ?_
  show zv G l y cc n r d mc ms0 (pc + 1) lv st (va_up (ms G g σ) (zg_B G + 27) (.inl (zg_c G 0, 4, .inl (upd (σ.2.2.1 17) i.toNatClampNeg x))), nn) Q
  rw [ms_st17]; exact kk
end ZM
