/-- the field that 'own' names idx is field k of class ci -/
def zf (own : String) (idx ci k : Nat) : Prop := ∃ (Cn : String) (T : u_T) (N : Nat) (ref : String), vwCl[ci]? = some (Cn, T, N) ∧ k < N ∧ (∀ w ∈ u_ws Cn T N, w ∈ zw) ∧ (Cond.fieldLink own idx ref (T k).2.1 (T k).2.2.1 ∈ zw ∨ (own, idx, ref, (T k).2.1, (T k).2.2.1) ∈ zh_nF) ∧ (ref = (T k).1 ∨ Cond.sameField ref (T k).1 (T k).2.1 (T k).2.2.1 ∈ zw)
/-- and it may be written with values of type ty -/
def zfw (own : String) (idx ci k : Nat) (ty : FieldType) (fin : Bool) : Prop := ∃ (Cn : String) (T : u_T) (N : Nat) (ref : String) (ty0 : Nat → FieldType), vwCl[ci]? = some (Cn, T, N) ∧ k < N ∧ (∀ w ∈ u_ws Cn T N, w ∈ zw) ∧ (Cond.fieldLink own idx ref (T k).2.1 (T k).2.2.1 ∈ zw ∨ (fin = false ∧ (own, idx, ref, (T k).2.1, (T k).2.2.1) ∈ zh_nF)) ∧ (ref = (T k).1 ∨ Cond.sameField ref (T k).1 (T k).2.1 (T k).2.2.1 ∈ zw) ∧ (∀ k, k < N → parseFieldDescriptor (T k).2.2.1 = some (ty0 k)) ∧ (∀ a, a < N → ∀ b, b < N → a ≠ b → (T a).2.1 ≠ (T b).2.1) ∧ ty0 k = ty ∧ (T k).2.2.2 = fin ∧ (fin = true → (T k).1 = own)
section ZH
variable {G : zh_G} {l : Launch} {y : MethodName} {cc : ByteArray} {n : Nat} {r : Option FieldType} {d mc ms pc : Nat} {lv : List (Nat × Value)} {st : List Value} {h : zh_H} {Q : Option Value → zh_H → Prop}
variable {p : Program} {e : Env} {R : Room} {s : State} {m : MethodId} {args : Array Value} {below : List Frame} {meth : Method} {c : Code} {H : Heap} {locs : List Loc} {cells slots : Nat} {Qf : State → Prop} {ls : Array Slot} {rest : List Value} {a : Nat}
theorem zh_same {ref : String} {T : u_T} {k : Nat} (hts : ∀ w ∈ zw, w.before args s = true) (hs : ref = (T k).1 ∨ Cond.sameField ref (T k).1 (T k).2.1 (T k).2.2.1 ∈ zw) : ∀ x, s.fieldFound? (T k).1 (T k).2.1 (T k).2.2.1 = some x → s.fieldFound? ref (T k).2.1 (T k).2.2.1 = some x := by
  intro x hx
  rcases hs with rfl | hs
  · exact hx
  · exact u_same (hts _ hs) x hx
theorem zv_get {idx ci k : Nat} {fs : List Value} {v : Value} (hf : zf y.cls idx ci k) (he : h.1 a = .inr (ci, fs)) (hB : zg_B G ≤ a) (hB2 : a < h.2) (hv : fs[k]? = some v) (hd : decode cc pc = .ok (.getfield idx, 3)) (kk : zv G l y cc n r d mc ms (pc + 3) lv (v :: st) h Q) : zv G l y cc n r d mc ms pc lv (.ref a :: st) h Q := by
  intro p e R s m args below meth c Qf C H locs cells slots ls hW hL h1 h2 hl
  obtain ⟨Cn, T, N, ref, hc, hk, hin, hlink, hsame⟩ := hf
  have hP : va_P G.1 vwCl [(a, .inr (ci, fs))] H := by
    intro j q hj
    have hat := hW.2.2.2 a hB hB2
    rw [he] at hat
    match j, hj with
    | 0, hj => cases hj; exact hat
    | j + 1, hj => simp at hj
  rcases hlink with hlink | hlink
  · exact va_get C.1.1 C.1.2.1 C.2.1 hin C.1.2.2.2.1 C.2.2.1.1 hP 0 rfl hc k hk (C.2.1 _ hlink) (zh_same C.2.1 hsame) hv hd (kk p e R s m args below meth c Qf C H locs cells slots ls hW hL h1 h2 hl)
  · exact va_getN C.1.1 C.1.2.1 C.2.1 hin C.1.2.2.2.1 C.2.2.1.1 hP 0 rfl hc k hk (va_Nw.use rfl (C.2.2.1.2.1 _ hlink)) (zh_same C.2.1 hsame) hv hd (kk p e R s m args below meth c Qf C H locs cells slots ls hW hL h1 h2 hl)
theorem zv_put {idx ci k : Nat} {fs : List Value} {v : Value} {ty : FieldType} (hf : zfw y.cls idx ci k ty false) (he : h.1 a = .inr (ci, fs)) (hB : zg_B G ≤ a) (hB2 : a < h.2) (hn : narrow ty v = v) (hfit : fits ty v = true) (hlen : k < fs.length) (hd : decode cc pc = .ok (.putfield idx, 3)) (kk : zv G l y cc n r d mc ms (pc + 3) lv st (va_up h.1 a (.inr (ci, fs.set k v)), h.2) Q) : zv G l y cc n r d mc ms pc lv (v :: .ref a :: st) h Q := by
  intro p e R s m args below meth c Qf C H locs cells slots ls hW hL h1 h2 hl
  obtain ⟨Cn, T, N, ref, ty0, hc, hk, hin, hlink, hsame, hty, hnm, hty2, hfin, -⟩ := hf
  subst hty2
  have hK := C.2.2.1.1
  have hts := C.2.1
  have hap := va_apart (own := y.cls) hts hin ty0 hty hnm hK hc
  have hat := hW.2.2.2 a hB hB2
  rw [he] at hat
  obtain ⟨r0, hr0, cell, q1, q2, q3, q4⟩ := hat
  have hr : r0 = (Cn, T, N) := Option.some.inj (hr0.symm.trans hc)
  subst hr
  obtain ⟨hS, hfc, kC, hkC, hkind⟩ := hK.1 ci _ hc
  obtain ⟨cf, kf, fi, f, hi, hsl⟩ := hS k hk
  have hlay := hts _ (hin _ (u_in_lay hk))
  unfold u_lay at hlay
  rw [if_neg (by rw [hfin]; decide)] at hlay
  have hst := (u_facts hfc hkC (u_lays hts hin hk) hi).1
  have h6 := u_store hfc hkC hkind hlay hi (hty k hk) hn hfit
  have fin : ∀ H' : Heap, H'[a]? = some (cell.setSlot f.slot v) → H'.size = H.size → (∀ q, q ≠ a → H'[q]? = H[q]?) → W p l e R s m args below meth c H' (locs ++ [⟨a, f.slot⟩]) cells slots Qf (F0 m (pc + 3) ls st) := by
    intro H' e1 e2 e3
    rw [hsl] at e1
    refine kk p e R s m args below meth c Qf C H' _ cells slots ls (hW.put hB ⟨_, hc, t_OB.to (V := updV (vp_V fs) k v) ⟨_, e1, q2, q3, t_set q4 hap hk v⟩ (fun j _ => vp_updV_set hlen v j)⟩ e2 e3) (fun q hq => ?_) h1 h2 hl
    rcases List.mem_append.mp hq with h | h
    · exact hL q h
    · rw [List.mem_singleton.mp h]; exact hB
  rcases hlink with hlink | hlink
  · exact W.putK C.1.1 C.1.2.1 (f := f) ⟨C.1.2.2.2.1, hts _ hlink, ⟨_, _, _, zh_same hts hsame _ hi⟩, hst⟩ (by rw [q2]; exact h6) q1 q3 (by rw [hsl]; exact k2_hasslot (q4 k hk)) rfl rfl hd fin
  · exact va_WputK C.1.1 C.1.2.1 (f := f) C.1.2.2.2.1 (va_Nw.use rfl (C.2.2.1.2.1 _ hlink.2)) (zh_same hts hsame _ hi) hst (by rw [q2]; exact h6) q1 q3 (by rw [hsl]; exact k2_hasslot (q4 k hk)) rfl rfl hd fin
theorem zv_putF {idx ci k : Nat} {fs : List Value} {v : Value} {ty : FieldType} (hf : zfw y.cls idx ci k ty true) (hin2 : y.name = "<init>") (he : h.1 a = .inr (ci, fs)) (hB : zg_B G ≤ a) (hB2 : a < h.2) (hn : narrow ty v = v) (hfit : fits ty v = true) (hlen : k < fs.length) (hd : decode cc pc = .ok (.putfield idx, 3)) (kk : zv G l y cc n r d mc ms (pc + 3) lv st (va_up h.1 a (.inr (ci, fs.set k v)), h.2) Q) : zv G l y cc n r d mc ms pc lv (v :: .ref a :: st) h Q := by
  intro p e R s m args below meth c Qf C H locs cells slots ls hW hL h1 h2 hl
  obtain ⟨Cn, T, N, ref, ty0, hc, hk, hin, hlink, hsame, hty, hnm, hty2, hfin, hdecl⟩ := hf
  subst hty2
  have hdecl := hdecl rfl
  have hK := C.2.2.1.1
  have hts := C.2.1
  have hap := va_apart (own := y.cls) hts hin ty0 hty hnm hK hc
  have hat := hW.2.2.2 a hB hB2
  rw [he] at hat
  obtain ⟨r0, hr0, cell, q1, q2, q3, q4⟩ := hat
  have hr : r0 = (Cn, T, N) := Option.some.inj (hr0.symm.trans hc)
  subst hr
  obtain ⟨hS, hfc, kC, hkC, hkind⟩ := hK.1 ci _ hc
  obtain ⟨cf, kf, fi, f, hi, hsl⟩ := hS k hk
  have hlay := hts _ (hin _ (u_in_lay hk))
  unfold u_lay at hlay
  rw [if_pos hfin] at hlay
  have hst := (u_facts hfc hkC (u_lays hts hin hk) hi).1
  have hcf : m.cls = cf := by
    obtain ⟨_, _, c', _, _, _, -, -, hf', -, -, -, hown2, -⟩ := Cond.laysFinal_spec hlay
    have e1 : c' = cf := by have := hi.symm.trans hf'; simp at this; exact this.1.symm
    rw [hdecl] at hown2
    rw [← e1]; exact Option.some.inj (C.1.2.2.2.1.symm.trans hown2)
  have h6 := u_fits hfc hkC hkind (Or.inr hlay) hi (hty k hk) hn hfit
  rcases hlink with hlink | hlink
  · refine W.putFinK C.1.1 C.1.2.1 C.1.2.2.2.1 (hts _ hlink) (zh_same hts hsame _ hi) hst hcf (C.1.2.2.2.2.trans hin2) (by rw [q2]; exact h6) q1 q3 (by rw [hsl]; exact k2_hasslot (q4 k hk)) rfl rfl hd fun H' e1 e2 e3 => ?_
    rw [hsl] at e1
    refine kk p e R s m args below meth c Qf C H' _ cells slots ls (hW.put hB ⟨_, hc, t_OB.to (V := updV (vp_V fs) k v) ⟨_, e1, q2, q3, t_set q4 hap hk v⟩ (fun j _ => vp_updV_set hlen v j)⟩ e2 e3) (fun q hq => ?_) h1 h2 hl
    rcases List.mem_append.mp hq with h | h
    · exact hL q h
    · rw [List.mem_singleton.mp h]; exact hB
  · exact absurd hlink.1 (by decide)
theorem zv_iald {N : Nat} {f : Nat → Int32} {i : Int32} (he : h.1 a = .inl (zg_c G 0, N, .inl f)) (hB : zg_B G ≤ a) (hB2 : a < h.2) (hin : vp_in i N) (hd : decode cc pc = .ok (.iaload, 1)) (kk : zv G l y cc n r d mc ms (pc + 1) lv (.int (f i.toNatClampNeg) :: st) h Q) : zv G l y cc n r d mc ms pc lv (.int i :: .ref a :: st) h Q := by
  intro p e R s m args below meth c Qf C H locs cells slots ls hW hL h1 h2 hl
  have hat := hW.2.2.2 a hB hB2
  rw [he] at hat
  have hlt : i.toNatClampNeg < N := Nat.not_le.mp fun q => hin (Or.inr q)
  exact W.iald (v := .int (f i.toNatClampNeg)) C.1.1 C.1.2.1 hat ((C.2.2.1.1.2 0 _ rfl).1 N (fun j => .int (f j))) (fun q => by cases q) (by show ¬ (i < 0 ∨ (arrV _ _ _).slots.size ≤ _); rw [arrV_size]; exact hin) (by show (arrV _ _ _).slots[_]? = _; rw [arrV_read _ _ hlt]) rfl rfl hd (kk p e R s m args below meth c Qf C H locs cells slots ls hW hL h1 h2 hl)
theorem zv_zald {N : Nat} {f : Nat → Int32} {i : Int32} (he : h.1 a = .inl (zg_c G 2, N, .inl f)) (hB : zg_B G ≤ a) (hB2 : a < h.2) (hin : vp_in i N) (hd : decode cc pc = .ok (.baload, 1)) (kk : zv G l y cc n r d mc ms (pc + 1) lv (.int (f i.toNatClampNeg) :: st) h Q) : zv G l y cc n r d mc ms pc lv (.int i :: .ref a :: st) h Q := by
  intro p e R s m args below meth c Qf C H locs cells slots ls hW hL h1 h2 hl
  have hat := hW.2.2.2 a hB hB2
  rw [he] at hat
  have hlt : i.toNatClampNeg < N := Nat.not_le.mp fun q => hin (Or.inr q)
  exact W.zald (v := .int (f i.toNatClampNeg)) C.1.1 C.1.2.1 hat ((C.2.2.1.1.2 2 _ rfl).1 N (fun j => .int (f j))) (fun q => by cases q) (by show ¬ (i < 0 ∨ (arrV _ _ _).slots.size ≤ _); rw [arrV_size]; exact hin) (by show (arrV _ _ _).slots[_]? = _; rw [arrV_read _ _ hlt]) rfl rfl hd (kk p e R s m args below meth c Qf C H locs cells slots ls hW hL h1 h2 hl)
theorem zv_lald {N : Nat} {f : Nat → Int64} {i : Int32} (he : h.1 a = .inl (zg_c G 1, N, .inr (.inl f))) (hB : zg_B G ≤ a) (hB2 : a < h.2) (hin : vp_in i N) (hd : decode cc pc = .ok (.laload, 1)) (kk : zv G l y cc n r d mc ms (pc + 1) lv (.long (f i.toNatClampNeg) :: st) h Q) : zv G l y cc n r d mc ms pc lv (.int i :: .ref a :: st) h Q := by
  intro p e R s m args below meth c Qf C H locs cells slots ls hW hL h1 h2 hl
  have hat := hW.2.2.2 a hB hB2
  rw [he] at hat
  have hlt : i.toNatClampNeg < N := Nat.not_le.mp fun q => hin (Or.inr q)
  exact W.lald (v := .long (f i.toNatClampNeg)) C.1.1 C.1.2.1 hat ((C.2.2.1.1.2 1 _ rfl).1 N (fun j => .long (f j))) (fun q => by cases q) (by show ¬ (i < 0 ∨ (arrV _ _ _).slots.size ≤ _); rw [arrV_size]; exact hin) (by show (arrV _ _ _).slots[_]? = _; rw [arrV_read _ _ hlt]) rfl rfl hd (kk p e R s m args below meth c Qf C H locs cells slots ls hW hL h1 h2 hl)
theorem zv_aald3 {N : Nat} {f : Nat → Option Nat} {i : Int32} (he : h.1 a = .inl (zg_c G 3, N, .inr (.inr (.inr (.inr f))))) (hB : zg_B G ≤ a) (hB2 : a < h.2) (hin : vp_in i N) (hd : decode cc pc = .ok (.aaload, 1)) (kk : zv G l y cc n r d mc ms (pc + 1) lv (va_rf (f i.toNatClampNeg) :: st) h Q) : zv G l y cc n r d mc ms pc lv (.int i :: .ref a :: st) h Q := by
  intro p e R s m args below meth c Qf C H locs cells slots ls hW hL h1 h2 hl
  have hat := hW.2.2.2 a hB hB2
  rw [he] at hat
  have hlt : i.toNatClampNeg < N := Nat.not_le.mp fun q => hin (Or.inr q)
  exact W.aald (v := va_rf (f i.toNatClampNeg)) (ty := .object RX5) C.1.1 C.1.2.1 hat ((C.2.2.1.1.2 3 _ rfl).1 N (fun j => va_rf (f j))) rfl (fun q => by cases q) (by show ¬ (i < 0 ∨ (arrV _ _ _).slots.size ≤ _); rw [arrV_size]; exact hin) (by show (arrV _ _ _).slots[_]? = _; rw [arrV_read _ _ hlt]) rfl rfl hd (kk p e R s m args below meth c Qf C H locs cells slots ls hW hL h1 h2 hl)
theorem zv_aald4 {N : Nat} {f : Nat → Option Nat} {i : Int32} (he : h.1 a = .inl (zg_c G 4, N, .inr (.inr (.inr (.inr f))))) (hB : zg_B G ≤ a) (hB2 : a < h.2) (hin : vp_in i N) (hd : decode cc pc = .ok (.aaload, 1)) (kk : zv G l y cc n r d mc ms (pc + 1) lv (va_rf (f i.toNatClampNeg) :: st) h Q) : zv G l y cc n r d mc ms pc lv (.int i :: .ref a :: st) h Q := by
  intro p e R s m args below meth c Qf C H locs cells slots ls hW hL h1 h2 hl
  have hat := hW.2.2.2 a hB hB2
  rw [he] at hat
  have hlt : i.toNatClampNeg < N := Nat.not_le.mp fun q => hin (Or.inr q)
  exact W.aald (v := va_rf (f i.toNatClampNeg)) (ty := .object RX4) C.1.1 C.1.2.1 hat ((C.2.2.1.1.2 4 _ rfl).1 N (fun j => va_rf (f j))) rfl (fun q => by cases q) (by show ¬ (i < 0 ∨ (arrV _ _ _).slots.size ≤ _); rw [arrV_size]; exact hin) (by show (arrV _ _ _).slots[_]? = _; rw [arrV_read _ _ hlt]) rfl rfl hd (kk p e R s m args below meth c Qf C H locs cells slots ls hW hL h1 h2 hl)
theorem zv_iast {N : Nat} {f : Nat → Int32} {i : Int32} {x : Int32} (he : h.1 a = .inl (zg_c G 0, N, .inl f)) (hB : zg_B G ≤ a) (hB2 : a < h.2) (hin : vp_in i N) (hd : decode cc pc = .ok (.iastore, 1)) (kk : zv G l y cc n r d mc ms (pc + 1) lv st (va_up h.1 a (.inl (zg_c G 0, N, .inl (upd f i.toNatClampNeg x))), h.2) Q) : zv G l y cc n r d mc ms pc lv (.int x :: .int i :: .ref a :: st) h Q := by
  intro p e R s m args below meth c Qf C H locs cells slots ls hW hL h1 h2 hl
  have hat := hW.2.2.2 a hB hB2
  rw [he] at hat
  have hlt : i.toNatClampNeg < N := Nat.not_le.mp fun q => hin (Or.inr q)
  refine W.iast C.1.1 C.1.2.1 hat ((C.2.2.1.1.2 0 _ rfl).1 N (fun j => .int (f j))) (fun q => by cases q) (by show ¬ (i < 0 ∨ (arrV _ _ _).slots.size ≤ _); rw [arrV_size]; exact hin) rfl rfl hd fun H1 e1 z oq => ?_
  refine kk p e R s m args below meth c Qf C H1 _ cells slots ls (hW.put hB ?_ z oq) (fun q hq => by
    rcases List.mem_append.mp hq with h | h
    · exact hL q h
    · rw [List.mem_singleton.mp h]; exact hB) h1 h2 hl
  show H1[a]? = some (vp_cell _ _)
  rw [e1]
  rw [vp_cell_i, vp_cell_i, arrV_store]
  congr 2
  funext q
  by_cases hq : q = i.toNatClampNeg
  · subst hq
    simp [updV, upd]
  · simp [updV, upd, hq]
theorem zv_last {N : Nat} {f : Nat → Int64} {i : Int32} {x : Int64} (he : h.1 a = .inl (zg_c G 1, N, .inr (.inl f))) (hB : zg_B G ≤ a) (hB2 : a < h.2) (hin : vp_in i N) (hd : decode cc pc = .ok (.lastore, 1)) (kk : zv G l y cc n r d mc ms (pc + 1) lv st (va_up h.1 a (.inl (zg_c G 1, N, .inr (.inl (vp_updL f i.toNatClampNeg x)))), h.2) Q) : zv G l y cc n r d mc ms pc lv (.long x :: .int i :: .ref a :: st) h Q := by
  intro p e R s m args below meth c Qf C H locs cells slots ls hW hL h1 h2 hl
  have hat := hW.2.2.2 a hB hB2
  rw [he] at hat
  have hlt : i.toNatClampNeg < N := Nat.not_le.mp fun q => hin (Or.inr q)
  refine W.last C.1.1 C.1.2.1 hat ((C.2.2.1.1.2 1 _ rfl).1 N (fun j => .long (f j))) (fun q => by cases q) (by show ¬ (i < 0 ∨ (arrV _ _ _).slots.size ≤ _); rw [arrV_size]; exact hin) rfl rfl hd fun H1 e1 z oq => ?_
  refine kk p e R s m args below meth c Qf C H1 _ cells slots ls (hW.put hB ?_ z oq) (fun q hq => by
    rcases List.mem_append.mp hq with h | h
    · exact hL q h
    · rw [List.mem_singleton.mp h]; exact hB) h1 h2 hl
  show H1[a]? = some (vp_cell _ _)
  rw [e1]
  rw [vp_cell_l, vp_cell_l, arrV_store]
  congr 2
  funext q
  by_cases hq : q = i.toNatClampNeg
  · subst hq
    simp [updV, vp_updL]
  · simp [updV, vp_updL, hq]
theorem zv_zast {N : Nat} {f : Nat → Int32} {i : Int32} {x : Int32} (he : h.1 a = .inl (zg_c G 2, N, .inl f)) (hB : zg_B G ≤ a) (hB2 : a < h.2) (hin : vp_in i N) (hnar : narrow .boolean (.int x) = .int x) (hd : decode cc pc = .ok (.bastore, 1)) (kk : zv G l y cc n r d mc ms (pc + 1) lv st (va_up h.1 a (.inl (zg_c G 2, N, .inl (upd f i.toNatClampNeg x))), h.2) Q) : zv G l y cc n r d mc ms pc lv (.int x :: .int i :: .ref a :: st) h Q := by
  intro p e R s m args below meth c Qf C H locs cells slots ls hW hL h1 h2 hl
  have hat := hW.2.2.2 a hB hB2
  rw [he] at hat
  have hlt : i.toNatClampNeg < N := Nat.not_le.mp fun q => hin (Or.inr q)
  refine W.zast C.1.1 C.1.2.1 hat ((C.2.2.1.1.2 2 _ rfl).1 N (fun j => .int (f j))) (fun q => by cases q) (by show ¬ (i < 0 ∨ (arrV _ _ _).slots.size ≤ _); rw [arrV_size]; exact hin) rfl rfl hd fun H1 e1 z oq => ?_
  refine kk p e R s m args below meth c Qf C H1 _ cells slots ls (hW.put hB ?_ z oq) (fun q hq => by
    rcases List.mem_append.mp hq with h | h
    · exact hL q h
    · rw [List.mem_singleton.mp h]; exact hB) h1 h2 hl
  show H1[a]? = some (vp_cell _ _)
  rw [e1, hnar]
  rw [vp_cell_i, vp_cell_i, arrV_store]
  congr 2
  funext q
  by_cases hq : q = i.toNatClampNeg
  · subst hq
    simp [updV, upd]
  · simp [updV, upd, hq]
theorem zv_aast3 {N ci b : Nat} {f : Nat → Option Nat} {i : Int32} {q0 : vw_C} {vs : List Value} (he : h.1 a = .inl (zg_c G 3, N, .inr (.inr (.inr (.inr f))))) (hB : zg_B G ≤ a) (hB2 : a < h.2) (hin : vp_in i N) (hv : h.1 b = .inr (ci, vs)) (hv1 : zg_B G ≤ b) (hv2 : b < h.2) (hc : vwCl[ci]? = some q0) (hcs : (q0.1, RX5) ∈ zh_cs ∨ q0.1 = RX5) (hd : decode cc pc = .ok (.aastore, 1)) (kk : zv G l y cc n r d mc ms (pc + 1) lv st (va_up h.1 a (.inl (zg_c G 3, N, .inr (.inr (.inr (.inr (va_up f i.toNatClampNeg (some b))))))), h.2) Q) : zv G l y cc n r d mc ms pc lv (.ref b :: .int i :: .ref a :: st) h Q := by
  intro p e R s m args below meth c Qf C H locs cells slots ls hW hL h1 h2 hl
  have hat := hW.2.2.2 a hB hB2
  rw [he] at hat
  have hlt : i.toNatClampNeg < N := Nat.not_le.mp fun q => hin (Or.inr q)
  have hatv := hW.2.2.2 b hv1 hv2
  rw [hv] at hatv
  obtain ⟨r', hr', cellV, g1, g2, g3, -⟩ := hatv
  have hcls := (C.2.2.1.1.1 ci q0 hc).2
  obtain ⟨kA, comp, k1, k2, k3, -⟩ := (C.2.2.1.1.2 3 _ rfl).2
  obtain ⟨kC, hkC, -⟩ := hcls.2
  have h0 : ¬ i < 0 := fun q => hin (Or.inl q)
  have hasg : s.vm.assignable (G.1.1 ci) comp = true := by
    rcases hcs with hcs | hcs
    · obtain ⟨c0, t0, f1, f2, f3⟩ := Cond.castable_spec (va_Nw.use (A := args) rfl (C.2.2.1.2.2.2.1 _ hcs))
      cases hcls.1.symm.trans f1
      cases k3.symm.trans f2
      exact f3
    · have e0 := hcls.1
      rw [hcs] at e0
      cases k3.symm.trans e0
      exact va_assign hcls
  obtain ⟨kcomp, hkcomp, -⟩ := Vm.findClass_spec k3
  refine W.aast C.1.1 C.1.2.1 hat (fun q h => by cases h) (fun h => by cases h) k1 k2 rfl hkcomp ⟨h0, by show _ < (arrV _ _ _).slots.size; rw [arrV_size]; exact hlt⟩ g1 (fun q h => by rw [g3] at h; cases h) (by rw [g2]; exact hkC) (by rw [g2]; exact hasg) rfl rfl hd fun H1 e1 z oq => ?_
  refine kk p e R s m args below meth c Qf C H1 _ cells slots ls (hW.put hB ?_ z oq) (fun q hq => by
    rcases List.mem_append.mp hq with h | h
    · exact hL q h
    · rw [List.mem_singleton.mp h]; exact hB) h1 h2 hl
  show H1[a]? = some (vp_cell _ _)
  rw [e1]
  rw [vp_cell_q, vp_cell_q, arrV_store]
  congr 2
  funext q
  by_cases hq : q = i.toNatClampNeg
  · subst hq
    simp [updV, va_up, va_rf]
  · simp [updV, va_up, hq]
theorem zv_aast4 {N ci b : Nat} {f : Nat → Option Nat} {i : Int32} {q0 : vw_C} {vs : List Value} (he : h.1 a = .inl (zg_c G 4, N, .inr (.inr (.inr (.inr f))))) (hB : zg_B G ≤ a) (hB2 : a < h.2) (hin : vp_in i N) (hv : h.1 b = .inr (ci, vs)) (hv1 : zg_B G ≤ b) (hv2 : b < h.2) (hc : vwCl[ci]? = some q0) (hcs : (q0.1, RX4) ∈ zh_cs ∨ q0.1 = RX4) (hd : decode cc pc = .ok (.aastore, 1)) (kk : zv G l y cc n r d mc ms (pc + 1) lv st (va_up h.1 a (.inl (zg_c G 4, N, .inr (.inr (.inr (.inr (va_up f i.toNatClampNeg (some b))))))), h.2) Q) : zv G l y cc n r d mc ms pc lv (.ref b :: .int i :: .ref a :: st) h Q := by
  intro p e R s m args below meth c Qf C H locs cells slots ls hW hL h1 h2 hl
  have hat := hW.2.2.2 a hB hB2
  rw [he] at hat
  have hlt : i.toNatClampNeg < N := Nat.not_le.mp fun q => hin (Or.inr q)
  have hatv := hW.2.2.2 b hv1 hv2
  rw [hv] at hatv
  obtain ⟨r', hr', cellV, g1, g2, g3, -⟩ := hatv
  have hcls := (C.2.2.1.1.1 ci q0 hc).2
  obtain ⟨kA, comp, k1, k2, k3, -⟩ := (C.2.2.1.1.2 4 _ rfl).2
  obtain ⟨kC, hkC, -⟩ := hcls.2
  have h0 : ¬ i < 0 := fun q => hin (Or.inl q)
  have hasg : s.vm.assignable (G.1.1 ci) comp = true := by
    rcases hcs with hcs | hcs
    · obtain ⟨c0, t0, f1, f2, f3⟩ := Cond.castable_spec (va_Nw.use (A := args) rfl (C.2.2.1.2.2.2.1 _ hcs))
      cases hcls.1.symm.trans f1
      cases k3.symm.trans f2
      exact f3
    · have e0 := hcls.1
      rw [hcs] at e0
      cases k3.symm.trans e0
      exact va_assign hcls
  obtain ⟨kcomp, hkcomp, -⟩ := Vm.findClass_spec k3
  refine W.aast C.1.1 C.1.2.1 hat (fun q h => by cases h) (fun h => by cases h) k1 k2 rfl hkcomp ⟨h0, by show _ < (arrV _ _ _).slots.size; rw [arrV_size]; exact hlt⟩ g1 (fun q h => by rw [g3] at h; cases h) (by rw [g2]; exact hkC) (by rw [g2]; exact hasg) rfl rfl hd fun H1 e1 z oq => ?_
  refine kk p e R s m args below meth c Qf C H1 _ cells slots ls (hW.put hB ?_ z oq) (fun q hq => by
    rcases List.mem_append.mp hq with h | h
    · exact hL q h
    · rw [List.mem_singleton.mp h]; exact hB) h1 h2 hl
  show H1[a]? = some (vp_cell _ _)
  rw [e1]
  rw [vp_cell_q, vp_cell_q, arrV_store]
  congr 2
  funext q
  by_cases hq : q = i.toNatClampNeg
  · subst hq
    simp [updV, va_up, va_rf]
  · simp [updV, va_up, hq]
theorem zv_aast3N {N : Nat} {f : Nat → Option Nat} {i : Int32} (he : h.1 a = .inl (zg_c G 3, N, .inr (.inr (.inr (.inr f))))) (hB : zg_B G ≤ a) (hB2 : a < h.2) (hin : vp_in i N) (hd : decode cc pc = .ok (.aastore, 1)) (kk : zv G l y cc n r d mc ms (pc + 1) lv st (va_up h.1 a (.inl (zg_c G 3, N, .inr (.inr (.inr (.inr (va_up f i.toNatClampNeg none)))))), h.2) Q) : zv G l y cc n r d mc ms pc lv (.null :: .int i :: .ref a :: st) h Q := by
  intro p e R s m args below meth c Qf C H locs cells slots ls hW hL h1 h2 hl
  have hat := hW.2.2.2 a hB hB2
  rw [he] at hat
  have hlt : i.toNatClampNeg < N := Nat.not_le.mp fun q => hin (Or.inr q)
  refine va_WaastN (C := RX5) C.1.1 C.1.2.1 hat ((C.2.2.1.1.2 3 _ rfl).1 N (fun j => va_rf (f j))) (fun h => by cases h) (by show ¬ (i < 0 ∨ (arrV _ _ _).slots.size ≤ _); rw [arrV_size]; exact hin) rfl rfl hd fun H1 e1 z oq => ?_
  refine kk p e R s m args below meth c Qf C H1 _ cells slots ls (hW.put hB ?_ z oq) (fun q hq => by
    rcases List.mem_append.mp hq with h | h
    · exact hL q h
    · rw [List.mem_singleton.mp h]; exact hB) h1 h2 hl
  show H1[a]? = some (vp_cell _ _)
  rw [e1]
  rw [vp_cell_q, vp_cell_q, arrV_store]
  congr 2
  funext q
  by_cases hq : q = i.toNatClampNeg
  · subst hq
    simp [updV, va_up, va_rf]
  · simp [updV, va_up, hq]
theorem zv_gets {idx : Nat} (hf : Cond.fieldLink y.cls idx "ProbeRacks" "GOES_INTO" "[I" ∈ zw) (hd : decode cc pc = .ok (.getstatic idx, 3)) (kk : zv G l y cc n r d mc ms (pc + 3) lv (.ref (zg_a G) :: st) h Q) : zv G l y cc n r d mc ms pc lv st h Q := by
  intro p e R s m args below meth c Qf C H locs cells slots ls hW hL h1 h2 hl
  obtain ⟨cf, kf, fi, f, a1, cell, f1, f2, f3, f4, f5, f6, f7, f8⟩ := C.2.2.1.2.2.2.2.2.2.1
  exact W.gets C.1.1 C.1.2.1 C.1.2.2.2.1 (C.2.1 _ hf) f1 f2 f3 f4 (by rw [hW.2.2.1 a1 (Nat.not_le.mp f8)]; exact f5) (fun e => by rw [e] at f6; cases f6) f7 rfl hd (kk p e R s m args below meth c Qf C H locs cells slots ls hW hL h1 h2 hl)
theorem zv_gald {i : Int32} (hin : vp_in i 11) (hd : decode cc pc = .ok (.iaload, 1)) (kk : zv G l y cc n r d mc ms (pc + 1) lv (.int (zg_tab i.toNatClampNeg) :: st) h Q) : zv G l y cc n r d mc ms pc lv (.int i :: .ref (zg_a G) :: st) h Q := by
  intro p e R s m args below meth c Qf C H locs cells slots ls hW hL h1 h2 hl
  obtain ⟨cell, f1, f2, f3, f4, f5, f6, f7⟩ := C.2.2.1.2.2.2.2.2.2.2.1
  have hlt : i.toNatClampNeg < 11 := Nat.not_le.mp fun q => hin (Or.inr q)
  exact W.iald (v := .int (zg_tab i.toNatClampNeg)) C.1.1 C.1.2.1 (by rw [hW.2.2.1 _ (Nat.not_le.mp f7)]; exact f1) f2 f3 (fun q => q.elim (fun q => hin (Or.inl q)) (fun q => by omega)) (f6 _ hlt) rfl rfl hd (kk p e R s m args below meth c Qf C H locs cells slots ls hW hL h1 h2 hl)
/-- the class that 'own' names idx is class ci, its fields at birth fs -/
def zn (own : String) (idx ci N : Nat) (fs : List Value) : Prop := ∃ (Cn : String) (T : u_T) (ty : Nat → FieldType), vwCl[ci]? = some (Cn, T, N) ∧ (∀ w ∈ u_ws Cn T N, w ∈ zw) ∧ (∀ k, k < N → parseFieldDescriptor (T k).2.2.1 = some (ty k)) ∧ Cond.classLink own idx Cn ∈ zw ∧ Cond.instantiable Cn N ∈ zw ∧ Cond.initialized Cn ∈ zw ∧ (∀ j, j < N → defaultValue (ty j) = vp_V fs j)
theorem zv_new {idx ci N : Nat} {fs : List Value} (hf : zn y.cls idx ci N fs) (hd : decode cc pc = .ok (.new idx, 3)) (kk : zv G l y cc n r d mc ms (pc + 3) lv (.ref h.2 :: st) (va_up h.1 h.2 (.inr (ci, fs)), h.2 + 1) Q) : zv G l y cc n r d (mc + 1) (ms + N) pc lv st h Q := by
  intro p e R s m args below meth c Qf C H locs cells slots ls hW hL h1 h2 hl
  obtain ⟨Cn, T, ty, hc, hin, hty, hcl, hins, hini, hfs⟩ := hf
  have hKn := C.2.2.1.1.1 ci _ hc
  refine W.newcK C.1.1 C.1.2.1 C.1.2.2.2.1 (C.2.1 _ hcl) (C.2.1 _ hins) (C.2.1 _ hini) rfl hd (by omega) (by omega) hKn.2.1 hW.1 fun H1 kC hkC e1 z1 o1 => ?_
  refine kk p e R s m args below meth c Qf C H1 _ (cells + 1) (slots + N) ls (hW.push ?_ (by rw [z1, hW.1]) (fun q hq => o1 q (by rw [← hW.1]; exact hq))) hL (by omega) (by omega) hl
  exact ⟨_, hc, (u_born ty C.2.1 hin hKn hkC e1 hty).to hfs⟩
theorem zv_newI {N : Nat} {i : Int32} (harr : Cond.arrayClass .int ∈ zw) (hi : ¬ i < 0) (hN : i.toNatClampNeg = N) (hbytes : N * 8 ≤ 536870912) (hd : decode cc pc = .ok (.newarray .int, 2)) (kk : zv G l y cc n r d mc ms (pc + 2) lv (.ref h.2 :: st) (va_up h.1 h.2 (.inl (zg_c G 0, N, .inl (fun _ => 0))), h.2 + 1) Q) : zv G l y cc n r d (mc + 1) (ms + N) pc lv (.int i :: st) h Q := by
  intro p e R s m args below meth c Qf C H locs cells slots ls hW hL h1 h2 hl
  refine va_newaK (atype := .int) C.1.1 C.1.2.1 (C.2.1 _ harr) rfl hd rfl hi hN (by simp [newarray.typeOf, componentBytes]; omega) (by omega) (by omega) hW.1 fun H1 cA e1 z1 o1 hAr hNm => ?_
  have hcA : cA = zg_c G 0 := Option.some.inj (hNm.symm.trans (C.2.2.1.1.2 0 _ rfl).2)
  subst hcA
  exact kk p e R s m args below meth c Qf C H1 _ (cells + 1) (slots + N) ls (hW.push e1 (by rw [z1, hW.1]) (fun q hq => o1 q (by rw [← hW.1]; exact hq))) hL (by omega) (by omega) hl
theorem zv_newJ {N : Nat} {i : Int32} (harr : Cond.arrayClass .long ∈ zw) (hi : ¬ i < 0) (hN : i.toNatClampNeg = N) (hbytes : N * 8 ≤ 536870912) (hd : decode cc pc = .ok (.newarray .long, 2)) (kk : zv G l y cc n r d mc ms (pc + 2) lv (.ref h.2 :: st) (va_up h.1 h.2 (.inl (zg_c G 1, N, .inr (.inl (fun _ => 0)))), h.2 + 1) Q) : zv G l y cc n r d (mc + 1) (ms + N) pc lv (.int i :: st) h Q := by
  intro p e R s m args below meth c Qf C H locs cells slots ls hW hL h1 h2 hl
  refine va_newaK (atype := .long) C.1.1 C.1.2.1 (C.2.1 _ harr) rfl hd rfl hi hN (by simp [newarray.typeOf, componentBytes]; omega) (by omega) (by omega) hW.1 fun H1 cA e1 z1 o1 hAr hNm => ?_
  have hcA : cA = zg_c G 1 := Option.some.inj (hNm.symm.trans (C.2.2.1.1.2 1 _ rfl).2)
  subst hcA
  exact kk p e R s m args below meth c Qf C H1 _ (cells + 1) (slots + N) ls (hW.push e1 (by rw [z1, hW.1]) (fun q hq => o1 q (by rw [← hW.1]; exact hq))) hL (by omega) (by omega) hl
theorem zv_newZ {N : Nat} {i : Int32} (harr : Cond.arrayClass .boolean ∈ zw) (hi : ¬ i < 0) (hN : i.toNatClampNeg = N) (hbytes : N * 8 ≤ 536870912) (hd : decode cc pc = .ok (.newarray .boolean, 2)) (kk : zv G l y cc n r d mc ms (pc + 2) lv (.ref h.2 :: st) (va_up h.1 h.2 (.inl (zg_c G 2, N, .inl (fun _ => 0))), h.2 + 1) Q) : zv G l y cc n r d (mc + 1) (ms + N) pc lv (.int i :: st) h Q := by
  intro p e R s m args below meth c Qf C H locs cells slots ls hW hL h1 h2 hl
  refine va_newaK (atype := .boolean) C.1.1 C.1.2.1 (C.2.1 _ harr) rfl hd rfl hi hN (by simp [newarray.typeOf, componentBytes]; omega) (by omega) (by omega) hW.1 fun H1 cA e1 z1 o1 hAr hNm => ?_
  have hcA : cA = zg_c G 2 := Option.some.inj (hNm.symm.trans (C.2.2.1.1.2 2 _ rfl).2)
  subst hcA
  exact kk p e R s m args below meth c Qf C H1 _ (cells + 1) (slots + N) ls (hW.push e1 (by rw [z1, hW.1]) (fun q hq => o1 q (by rw [← hW.1]; exact hq))) hL (by omega) (by omega) hl
theorem zv_newT {N idx : Nat} {i : Int32} (hcl : Cond.classLink y.cls idx RX5 ∈ zw) (hi : ¬ i < 0) (hN : i.toNatClampNeg = N) (hbytes : N * 4 ≤ 536870912) (hd : decode cc pc = .ok (.anewarray idx, 3)) (kk : zv G l y cc n r d mc ms (pc + 3) lv (.ref h.2 :: st) (va_up h.1 h.2 (.inl (zg_c G 3, N, .inr (.inr (.inr (.inr (fun _ => none)))))), h.2 + 1) Q) : zv G l y cc n r d (mc + 1) (ms + N) pc lv (.int i :: st) h Q := by
  intro p e R s m args below meth c Qf C H locs cells slots ls hW hL h1 h2 hl
  subst hN
  refine W.anew C.1.1 C.1.2.1 C.1.2.2.2.1 (C.2.1 _ hcl) (va_AO.use C.2.2.1.2.2.2.2.2.1.1) rfl hd rfl hi hbytes (by omega) (by omega) fun cA kA comp f1 f2 f3 f4 => ?_
  obtain ⟨kA2, comp2, k1, k2, k3, k4⟩ := (C.2.2.1.1.2 3 _ rfl).2
  have hcA : cA = zg_c G 3 := Option.some.inj (f1.symm.trans k4)
  subst hcA
  generalize hH1 : H.push ({ cls := zg_c G 3, slots := Array.replicate i.toNatClampNeg .null, vm := .none } : Cell) = H1
  have z1 : H1.size = H.size + 1 := by rw [← hH1, Array.size_push]
  have e1 : H1[H.size]? = some (arrV (zg_c G 3) i.toNatClampNeg (fun _ => .null)) := by rw [← hH1, Array.getElem?_push_size, ← arrV_new]
  have o1 : ∀ q : Nat, q < H.size → H1[q]? = H[q]? := fun q hq => by rw [← hH1, Array.getElem?_push, if_neg (Nat.ne_of_lt hq)]
  rw [hW.1] at e1
  have hsz : H.size = h.2 := hW.1
  refine W.eq (g2 := F0 m (pc + 3) ls (.ref h.2 :: st)) (by rw [← hsz]) ?_
  exact kk p e R s m args below meth c Qf C H1 _ (cells + 1) (slots + i.toNatClampNeg) ls (hW.push e1 z1 o1) hL (by omega) (by omega) hl
theorem zv_newS {N idx : Nat} {i : Int32} (hcl : Cond.classLink y.cls idx RX4 ∈ zw) (hi : ¬ i < 0) (hN : i.toNatClampNeg = N) (hbytes : N * 4 ≤ 536870912) (hd : decode cc pc = .ok (.anewarray idx, 3)) (kk : zv G l y cc n r d mc ms (pc + 3) lv (.ref h.2 :: st) (va_up h.1 h.2 (.inl (zg_c G 4, N, .inr (.inr (.inr (.inr (fun _ => none)))))), h.2 + 1) Q) : zv G l y cc n r d (mc + 1) (ms + N) pc lv (.int i :: st) h Q := by
  intro p e R s m args below meth c Qf C H locs cells slots ls hW hL h1 h2 hl
  subst hN
  refine W.anew C.1.1 C.1.2.1 C.1.2.2.2.1 (C.2.1 _ hcl) (va_AO.use C.2.2.1.2.2.2.2.2.1.2) rfl hd rfl hi hbytes (by omega) (by omega) fun cA kA comp f1 f2 f3 f4 => ?_
  obtain ⟨kA2, comp2, k1, k2, k3, k4⟩ := (C.2.2.1.1.2 4 _ rfl).2
  have hcA : cA = zg_c G 4 := Option.some.inj (f1.symm.trans k4)
  subst hcA
  generalize hH1 : H.push ({ cls := zg_c G 4, slots := Array.replicate i.toNatClampNeg .null, vm := .none } : Cell) = H1
  have z1 : H1.size = H.size + 1 := by rw [← hH1, Array.size_push]
  have e1 : H1[H.size]? = some (arrV (zg_c G 4) i.toNatClampNeg (fun _ => .null)) := by rw [← hH1, Array.getElem?_push_size, ← arrV_new]
  have o1 : ∀ q : Nat, q < H.size → H1[q]? = H[q]? := fun q hq => by rw [← hH1, Array.getElem?_push, if_neg (Nat.ne_of_lt hq)]
  rw [hW.1] at e1
  have hsz : H.size = h.2 := hW.1
  refine W.eq (g2 := F0 m (pc + 3) ls (.ref h.2 :: st)) (by rw [← hsz]) ?_
  exact kk p e R s m args below meth c Qf C H1 _ (cells + 1) (slots + i.toNatClampNeg) ls (hW.push e1 z1 o1) hL (by omega) (by omega) hl
theorem zh_recv {ci : Nat} {fs : List Value} {q0 : vw_C} (hK : zh_K G s) (hW : zh_W G h H) (he : h.1 a = .inr (ci, fs)) (hB : zg_B G ≤ a) (hB2 : a < h.2) (hc : vwCl[ci]? = some q0) : ∃ cell : Cell, H[a]? = some cell ∧ cell.vm.isStatics = false ∧ s.vm.findClass q0.1 = some cell.cls := by
  have hat := hW.2.2.2 a hB hB2
  rw [he] at hat
  obtain ⟨r', hr', cell, g1, g2, g3, -⟩ := hat
  exact ⟨cell, g1, by rw [g3]; rfl, by rw [g2]; exact (hK.1.1 ci q0 hc).2.1⟩
theorem zv_instY {idx ci : Nat} {fs : List Value} {q0 : vw_C} {nm : String} (he : h.1 a = .inr (ci, fs)) (hB : zg_B G ≤ a) (hB2 : a < h.2) (hc : vwCl[ci]? = some q0) (hl0 : Cond.classLink y.cls idx nm ∈ zw) (hcs : (q0.1, nm) ∈ zh_cs) (hd : decode cc pc = .ok (.instanceof idx, 3)) (kk : zv G l y cc n r d mc ms (pc + 3) lv (.int 1 :: st) h Q) : zv G l y cc n r d mc ms pc lv (.ref a :: st) h Q := by
  intro p e R s m args below meth c Qf C H locs cells slots ls hW hL h1 h2 hl
  exact va_instY C.1.1 C.1.2.1 C.1.2.2.2.1 (C.2.1 _ hl0) (C.2.2.1.2.2.2.1 _ hcs) (zh_recv C.2.2.1 hW he hB hB2 hc) hd (kk p e R s m args below meth c Qf C H locs cells slots ls hW hL h1 h2 hl)
theorem zv_instNo {idx ci : Nat} {fs : List Value} {q0 : vw_C} {nm : String} (he : h.1 a = .inr (ci, fs)) (hB : zg_B G ≤ a) (hB2 : a < h.2) (hc : vwCl[ci]? = some q0) (hl0 : Cond.classLink y.cls idx nm ∈ zw) (hcs : (q0.1, nm) ∈ zh_nc) (hd : decode cc pc = .ok (.instanceof idx, 3)) (kk : zv G l y cc n r d mc ms (pc + 3) lv (.int 0 :: st) h Q) : zv G l y cc n r d mc ms pc lv (.ref a :: st) h Q := by
  intro p e R s m args below meth c Qf C H locs cells slots ls hW hL h1 h2 hl
  exact va_instNo C.1.1 C.1.2.1 C.1.2.2.2.1 (C.2.1 _ hl0) (C.2.2.1.2.2.2.2.1 _ hcs) (zh_recv C.2.2.1 hW he hB hB2 hc) hd (kk p e R s m args below meth c Qf C H locs cells slots ls hW hL h1 h2 hl)
theorem zv_castY {idx ci : Nat} {fs : List Value} {q0 : vw_C} {nm : String} (he : h.1 a = .inr (ci, fs)) (hB : zg_B G ≤ a) (hB2 : a < h.2) (hc : vwCl[ci]? = some q0) (hl0 : Cond.classLink y.cls idx nm ∈ zw) (hcs : (q0.1, nm) ∈ zh_cs) (hd : decode cc pc = .ok (.checkcast idx, 3)) (kk : zv G l y cc n r d mc ms (pc + 3) lv (.ref a :: st) h Q) : zv G l y cc n r d mc ms pc lv (.ref a :: st) h Q := by
  intro p e R s m args below meth c Qf C H locs cells slots ls hW hL h1 h2 hl
  exact va_castY C.1.1 C.1.2.1 C.1.2.2.2.1 (C.2.1 _ hl0) (C.2.2.1.2.2.2.1 _ hcs) (zh_recv C.2.2.1 hW he hB hB2 hc) hd (kk p e R s m args below meth c Qf C H locs cells slots ls hW hL h1 h2 hl)
theorem zv_instN {idx : Nat} (hd : decode cc pc = .ok (.instanceof idx, 3)) (kk : zv G l y cc n r d mc ms (pc + 3) lv (.int 0 :: st) h Q) : zv G l y cc n r d mc ms pc lv (.null :: st) h Q := by
  intro p e R s m args below meth c Qf C H locs cells slots ls hW hL h1 h2 hl
  exact lv_instN C.1.1 C.1.2.1 hd (kk p e R s m args below meth c Qf C H locs cells slots ls hW hL h1 h2 hl)
theorem zv_after {mc1 ms1 : Nat} {st0 : List Value} {Q1 : Option Value → zh_H → Prop} (hr : va_Run p l e R s m args below meth c H locs cells slots mc1 ms1 (F0 m pc ls st0) rest (fun _ oc t => ∃ (v : Option Value) (h' : zh_H), oc = .returned v ∧ Q1 v h' ∧ zh_W G h' t.heap) (fun q => zg_B G ≤ q)) (hL : ∀ q ∈ locs, zg_B G ≤ q.base) (kk : ∀ (v : Option Value) (h' : zh_H) (H1 : Heap) (locs1 : List Loc), Q1 v h' → zh_W G h' H1 → (∀ q ∈ locs1, zg_B G ≤ q.base) → W p l e R s m args below meth c H1 locs1 (cells + mc1) (slots + ms1) Qf (F0 m (pc + 3) ls (v.toList ++ rest))) : W p l e R s m args below meth c H locs cells slots Qf (F0 m pc ls st0) := by
  intro T hT X
  obtain ⟨v, st₀, t, T', L, h0, X', hLL, e1, e2, ⟨v', h', hv, hq, hw⟩, stp⟩ := hr T hT X
  cases hv
  obtain ⟨t2, a1, b1⟩ := kk v h' T'.heap (locs ++ L) hq (by rw [e1]; exact hw) (fun q hq => (List.mem_append.mp hq).elim (hL q) (hLL q)) T' rfl X'
  exact ⟨t2, stp t2 a1, b1⟩
/-- the method that 'own' names idx: its code, its link, its class; k arguments -/
def zm (own : String) (idx : Nat) (y1 : MethodName) (cc1 : ByteArray) (n1 : Nat) (r1 : Option FieldType) (k : Nat) : Prop := Cond.code y1 cc1 n1 r1 ∈ zw ∧ (Cond.methodLink own idx y1 ∈ zw ∨ (own, idx, y1) ∈ zh_nM) ∧ Cond.initialized y1.cls ∈ zw ∧ (y1.cls ≠ "java/lang/invoke/MethodHandle" ∧ y1.cls ≠ "java/lang/invoke/VarHandle" ∧ (parseMethodDescriptor y1.desc).map (fun d => d.parameters.length) = some k) ∧ n1 ≤ 11
theorem zh_good {y1 : MethodName} {cc1 : ByteArray} {n1 : Nat} {r1 : Option FieldType} (hc : Cond.code y1 cc1 n1 r1 ∈ zw) : GoodIn zw (Cond.code y1 cc1 n1 r1 :: zw) := fun w hw => (List.mem_cons.mp hw).elim (fun e => by rw [e]; exact ⟨hc, zw_good hc⟩) (fun h => ⟨h, zw_good h⟩)
theorem zh_blind {av : List Value} : FrameBlind (va_Pc av (fun U => zh_K G U ∧ zh_W G h U.heap)) := fun a U g mk hq => ⟨hq.1, hq.2.1.warm (U := U.calling g mk a) (State.WarmedH.refl U), hq.2.2⟩
theorem zv_callS {y1 : MethodName} {cc1 : ByteArray} {n1 d1 k mc1 ms1 idx : Nat} {r1 : Option FieldType} {As rest : List Value}  {Q1 : Option Value → zh_H → Prop} (hm : zm y.cls idx y1 cc1 n1 r1 k) (hs : Cond.static y1 ∈ zw) (hM : zc G l y1 cc1 n1 r1 d1 As h mc1 ms1 Q1) (hst : st = As.reverse ++ rest) (hk : As.length = k) (hcat : (rest.map fun v => v.category).sum ≤ 8) (hdd : d1 + 1 ≤ d) (hd : decode cc pc = .ok (.invokestatic idx, 3)) (kk : ∀ (v : Option Value) (h' : zh_H), Q1 v h' → zv G l y cc n r d mc ms (pc + 3) lv (v.toList ++ rest) h' Q) : zv G l y cc n r d (mc1 + mc) (ms1 + ms) pc lv st h Q := by
  intro p e R s m args below meth c Qf C H locs cells slots ls hW hL h1 h2 hl
  have hn8 := hm.2.2.2.2
  have hd1 := C.2.2.2.1
  have hrn : va_Run p l e R s m args below meth c H locs cells slots mc1 ms1 (F0 m pc ls st) rest (fun _ oc t => ∃ (v : Option Value) (h' : zh_H), oc = .returned v ∧ Q1 v h' ∧ zh_W G h' t.heap) (fun q => zg_B G ≤ q) := by
    rcases hm.2.1 with hlk | hlk
    · exact va_runS (n := k) ⟨C.1.1, C.1.2.1, C.1.2.2.1, C.1.2.2.2.1, C.2.1⟩ hM ⟨callB_of k C.2.1 (zh_good hm.1) rfl rfl rfl (C.2.1 _ hm.2.2.1) (C.2.1 _ hlk) hm.2.2.2.1 ⟨by show d1 + 1 ≤ _; omega, by show 8 + (n1 + 11) + 30 * d1 ≤ _; omega⟩, C.2.1 _ hs⟩ ⟨zh_blind, fun U hU hWm => ⟨rfl, C.2.2.1.warm hWm, by rw [hU]; exact hW⟩⟩ rfl hk hl.1 hst (lv_room hcat) hd ⟨by omega, by omega⟩
    · exact va_runSN (n := k) ⟨C.1.1, C.1.2.1, C.1.2.2.1, C.1.2.2.2.1, C.2.1⟩ hM ⟨va_cnB k C.2.1 (zh_good hm.1) rfl rfl rfl (C.2.2.1.2.2.1 _ hlk) (C.2.1 _ hm.2.2.1) hm.2.2.2.1 ⟨by show d1 + 1 ≤ _; omega, by show 8 + (n1 + 11) + 30 * d1 ≤ _; omega⟩, C.2.1 _ hs, trivial⟩ ⟨zh_blind, fun U hU hWm => ⟨rfl, C.2.2.1.warm hWm, by rw [hU]; exact hW⟩⟩ rfl hk hl.1 hst (lv_room hcat) hd ⟨by omega, by omega⟩
  exact zv_after hrn hL (fun v h' H1 locs1 hq hw hL1 => kk v h' hq p e R s m args below meth c Qf C H1 locs1 _ _ ls hw hL1 (by omega) (by omega) hl)
theorem zv_callSq {y1 : MethodName} {cc1 : ByteArray} {n1 d1 k mc1 ms1 idx : Nat} {r1 : Option FieldType} {As rest : List Value}  {v0 : Option Value} {h0 : zh_H} (hm : zm y.cls idx y1 cc1 n1 r1 k) (hs : Cond.static y1 ∈ zw) (hM : zc G l y1 cc1 n1 r1 d1 As h mc1 ms1 (fun v h' => v = v0 ∧ h' = h0)) (hst : st = As.reverse ++ rest) (hk : As.length = k) (hcat : (rest.map fun v => v.category).sum ≤ 8) (hdd : d1 + 1 ≤ d) (hd : decode cc pc = .ok (.invokestatic idx, 3)) (kk : zv G l y cc n r d mc ms (pc + 3) lv (v0.toList ++ rest) h0 Q) : zv G l y cc n r d (mc1 + mc) (ms1 + ms) pc lv st h Q := by
  intro p e R s m args below meth c Qf C H locs cells slots ls hW hL h1 h2 hl
  have hn8 := hm.2.2.2.2
  have hd1 := C.2.2.2.1
  have hrn : va_Run p l e R s m args below meth c H locs cells slots mc1 ms1 (F0 m pc ls st) rest (fun _ oc t => ∃ (v : Option Value) (h' : zh_H), oc = .returned v ∧ (fun v h' => v = v0 ∧ h' = h0) v h' ∧ zh_W G h' t.heap) (fun q => zg_B G ≤ q) := by
    rcases hm.2.1 with hlk | hlk
    · exact va_runS (n := k) ⟨C.1.1, C.1.2.1, C.1.2.2.1, C.1.2.2.2.1, C.2.1⟩ hM ⟨callB_of k C.2.1 (zh_good hm.1) rfl rfl rfl (C.2.1 _ hm.2.2.1) (C.2.1 _ hlk) hm.2.2.2.1 ⟨by show d1 + 1 ≤ _; omega, by show 8 + (n1 + 11) + 30 * d1 ≤ _; omega⟩, C.2.1 _ hs⟩ ⟨zh_blind, fun U hU hWm => ⟨rfl, C.2.2.1.warm hWm, by rw [hU]; exact hW⟩⟩ rfl hk hl.1 hst (lv_room hcat) hd ⟨by omega, by omega⟩
    · exact va_runSN (n := k) ⟨C.1.1, C.1.2.1, C.1.2.2.1, C.1.2.2.2.1, C.2.1⟩ hM ⟨va_cnB k C.2.1 (zh_good hm.1) rfl rfl rfl (C.2.2.1.2.2.1 _ hlk) (C.2.1 _ hm.2.2.1) hm.2.2.2.1 ⟨by show d1 + 1 ≤ _; omega, by show 8 + (n1 + 11) + 30 * d1 ≤ _; omega⟩, C.2.1 _ hs, trivial⟩ ⟨zh_blind, fun U hU hWm => ⟨rfl, C.2.2.1.warm hWm, by rw [hU]; exact hW⟩⟩ rfl hk hl.1 hst (lv_room hcat) hd ⟨by omega, by omega⟩
  exact zv_after hrn hL (fun v h' H1 locs1 hq hw hL1 => by obtain ⟨rfl, rfl⟩ := hq; exact kk p e R s m args below meth c Qf C H1 locs1 _ _ ls hw hL1 (by omega) (by omega) hl)
theorem zv_callV {y1 : MethodName} {cc1 : ByteArray} {n1 d1 k mc1 ms1 idx : Nat} {r1 : Option FieldType} {As rest : List Value} {b ci : Nat} {fs : List Value} {q0 : vw_C} {Q1 : Option Value → zh_H → Prop} (hm : zm y.cls idx y1 cc1 n1 r1 k) (hs : Cond.instanceMethod y1 ∈ zw ∧ Cond.selects y1.cls y1 y1 ∈ zw) (he : h.1 b = .inr (ci, fs)) (hB : zg_B G ≤ b) (hB2 : b < h.2) (hc : vwCl[ci]? = some q0) (hcn : q0.1 = y1.cls) (hM : zc G l y1 cc1 n1 r1 d1 (.ref b :: As) h mc1 ms1 Q1) (hst : st = As.reverse ++ .ref b :: rest) (hk : As.length = k) (hcat : (rest.map fun v => v.category).sum ≤ 8) (hdd : d1 + 1 ≤ d) (hd : decode cc pc = .ok (.invokevirtual idx, 3)) (kk : ∀ (v : Option Value) (h' : zh_H), Q1 v h' → zv G l y cc n r d mc ms (pc + 3) lv (v.toList ++ rest) h' Q) : zv G l y cc n r d (mc1 + mc) (ms1 + ms) pc lv st h Q := by
  intro p e R s m args below meth c Qf C H locs cells slots ls hW hL h1 h2 hl
  have hn8 := hm.2.2.2.2
  have hd1 := C.2.2.2.1
  have hrn : va_Run p l e R s m args below meth c H locs cells slots mc1 ms1 (F0 m pc ls st) rest (fun _ oc t => ∃ (v : Option Value) (h' : zh_H), oc = .returned v ∧ Q1 v h' ∧ zh_W G h' t.heap) (fun q => zg_B G ≤ q) := by
    rcases hm.2.1 with hlk | hlk
    · exact va_runV (n := k) ⟨C.1.1, C.1.2.1, C.1.2.2.1, C.1.2.2.2.1, C.2.1⟩ hM ⟨callB_of k C.2.1 (zh_good hm.1) rfl rfl rfl (C.2.1 _ hm.2.2.1) (C.2.1 _ hlk) hm.2.2.2.1 ⟨by show d1 + 1 ≤ _; omega, by show 8 + (n1 + 11) + 30 * d1 ≤ _; omega⟩, C.2.1 _ hs.1, C.2.1 _ hs.2⟩ ⟨zh_blind, (by rw [← hcn]; exact zh_recv C.2.2.1 hW he hB hB2 hc), fun U hU hWm => ⟨rfl, C.2.2.1.warm hWm, by rw [hU]; exact hW⟩⟩ rfl hk hl.1 hst (lv_room hcat) hd ⟨by omega, by omega⟩
    · exact va_runVN (n := k) ⟨C.1.1, C.1.2.1, C.1.2.2.1, C.1.2.2.2.1, C.2.1⟩ hM ⟨va_cnB k C.2.1 (zh_good hm.1) rfl rfl rfl (C.2.2.1.2.2.1 _ hlk) (C.2.1 _ hm.2.2.1) hm.2.2.2.1 ⟨by show d1 + 1 ≤ _; omega, by show 8 + (n1 + 11) + 30 * d1 ≤ _; omega⟩, C.2.1 _ hs.1, C.2.1 _ hs.2⟩ ⟨zh_blind, (by rw [← hcn]; exact zh_recv C.2.2.1 hW he hB hB2 hc), fun U hU hWm => ⟨rfl, C.2.2.1.warm hWm, by rw [hU]; exact hW⟩⟩ rfl hk hl.1 hst (lv_room hcat) hd ⟨by omega, by omega⟩
  exact zv_after hrn hL (fun v h' H1 locs1 hq hw hL1 => kk v h' hq p e R s m args below meth c Qf C H1 locs1 _ _ ls hw hL1 (by omega) (by omega) hl)
theorem zv_callVq {y1 : MethodName} {cc1 : ByteArray} {n1 d1 k mc1 ms1 idx : Nat} {r1 : Option FieldType} {As rest : List Value} {b ci : Nat} {fs : List Value} {q0 : vw_C} {v0 : Option Value} {h0 : zh_H} (hm : zm y.cls idx y1 cc1 n1 r1 k) (hs : Cond.instanceMethod y1 ∈ zw ∧ Cond.selects y1.cls y1 y1 ∈ zw) (he : h.1 b = .inr (ci, fs)) (hB : zg_B G ≤ b) (hB2 : b < h.2) (hc : vwCl[ci]? = some q0) (hcn : q0.1 = y1.cls) (hM : zc G l y1 cc1 n1 r1 d1 (.ref b :: As) h mc1 ms1 (fun v h' => v = v0 ∧ h' = h0)) (hst : st = As.reverse ++ .ref b :: rest) (hk : As.length = k) (hcat : (rest.map fun v => v.category).sum ≤ 8) (hdd : d1 + 1 ≤ d) (hd : decode cc pc = .ok (.invokevirtual idx, 3)) (kk : zv G l y cc n r d mc ms (pc + 3) lv (v0.toList ++ rest) h0 Q) : zv G l y cc n r d (mc1 + mc) (ms1 + ms) pc lv st h Q := by
  intro p e R s m args below meth c Qf C H locs cells slots ls hW hL h1 h2 hl
  have hn8 := hm.2.2.2.2
  have hd1 := C.2.2.2.1
  have hrn : va_Run p l e R s m args below meth c H locs cells slots mc1 ms1 (F0 m pc ls st) rest (fun _ oc t => ∃ (v : Option Value) (h' : zh_H), oc = .returned v ∧ (fun v h' => v = v0 ∧ h' = h0) v h' ∧ zh_W G h' t.heap) (fun q => zg_B G ≤ q) := by
    rcases hm.2.1 with hlk | hlk
    · exact va_runV (n := k) ⟨C.1.1, C.1.2.1, C.1.2.2.1, C.1.2.2.2.1, C.2.1⟩ hM ⟨callB_of k C.2.1 (zh_good hm.1) rfl rfl rfl (C.2.1 _ hm.2.2.1) (C.2.1 _ hlk) hm.2.2.2.1 ⟨by show d1 + 1 ≤ _; omega, by show 8 + (n1 + 11) + 30 * d1 ≤ _; omega⟩, C.2.1 _ hs.1, C.2.1 _ hs.2⟩ ⟨zh_blind, (by rw [← hcn]; exact zh_recv C.2.2.1 hW he hB hB2 hc), fun U hU hWm => ⟨rfl, C.2.2.1.warm hWm, by rw [hU]; exact hW⟩⟩ rfl hk hl.1 hst (lv_room hcat) hd ⟨by omega, by omega⟩
    · exact va_runVN (n := k) ⟨C.1.1, C.1.2.1, C.1.2.2.1, C.1.2.2.2.1, C.2.1⟩ hM ⟨va_cnB k C.2.1 (zh_good hm.1) rfl rfl rfl (C.2.2.1.2.2.1 _ hlk) (C.2.1 _ hm.2.2.1) hm.2.2.2.1 ⟨by show d1 + 1 ≤ _; omega, by show 8 + (n1 + 11) + 30 * d1 ≤ _; omega⟩, C.2.1 _ hs.1, C.2.1 _ hs.2⟩ ⟨zh_blind, (by rw [← hcn]; exact zh_recv C.2.2.1 hW he hB hB2 hc), fun U hU hWm => ⟨rfl, C.2.2.1.warm hWm, by rw [hU]; exact hW⟩⟩ rfl hk hl.1 hst (lv_room hcat) hd ⟨by omega, by omega⟩
  exact zv_after hrn hL (fun v h' H1 locs1 hq hw hL1 => by obtain ⟨rfl, rfl⟩ := hq; exact kk p e R s m args below meth c Qf C H1 locs1 _ _ ls hw hL1 (by omega) (by omega) hl)
theorem zv_callI {y1 : MethodName} {cc1 : ByteArray} {n1 d1 k mc1 ms1 idx : Nat} {As rest : List Value} {b : Nat} {Q1 : Option Value → zh_H → Prop} (hm : zm y.cls idx y1 cc1 n1 none k) (hs : y1.name = "<init>" ∧ Cond.instanceMethod y1 ∈ zw) (hM : zc G l y1 cc1 n1 none d1 (.ref b :: As) h mc1 ms1 Q1) (hst : st = As.reverse ++ .ref b :: rest) (hk : As.length = k) (hcat : (rest.map fun v => v.category).sum ≤ 8) (hdd : d1 + 1 ≤ d) (hd : decode cc pc = .ok (.invokespecial idx, 3)) (kk : ∀ (v : Option Value) (h' : zh_H), Q1 v h' → zv G l y cc n r d mc ms (pc + 3) lv (v.toList ++ rest) h' Q) : zv G l y cc n r d (mc1 + mc) (ms1 + ms) pc lv st h Q := by
  intro p e R s m args below meth c Qf C H locs cells slots ls hW hL h1 h2 hl
  have hn8 := hm.2.2.2.2
  have hd1 := C.2.2.2.1
  have hrn : va_Run p l e R s m args below meth c H locs cells slots mc1 ms1 (F0 m pc ls st) rest (fun _ oc t => ∃ (v : Option Value) (h' : zh_H), oc = .returned v ∧ Q1 v h' ∧ zh_W G h' t.heap) (fun q => zg_B G ≤ q) := by
    rcases hm.2.1 with hlk | hlk
    · exact va_runI (n := k) ⟨C.1.1, C.1.2.1, C.1.2.2.1, C.1.2.2.2.1, C.2.1⟩ hM ⟨callB_of k C.2.1 (zh_good hm.1) rfl rfl rfl (C.2.1 _ hm.2.2.1) (C.2.1 _ hlk) hm.2.2.2.1 ⟨by show d1 + 1 ≤ _; omega, by show 8 + (n1 + 11) + 30 * d1 ≤ _; omega⟩, hs.1, C.2.1 _ hs.2⟩ ⟨zh_blind, fun U hU hWm => ⟨rfl, C.2.2.1.warm hWm, by rw [hU]; exact hW⟩⟩ rfl hk hl.1 hst (lv_room hcat) hd ⟨by omega, by omega⟩
    · exact va_runIN (n := k) ⟨C.1.1, C.1.2.1, C.1.2.2.1, C.1.2.2.2.1, C.2.1⟩ hM ⟨va_cnB k C.2.1 (zh_good hm.1) rfl rfl rfl (C.2.2.1.2.2.1 _ hlk) (C.2.1 _ hm.2.2.1) hm.2.2.2.1 ⟨by show d1 + 1 ≤ _; omega, by show 8 + (n1 + 11) + 30 * d1 ≤ _; omega⟩, hs.1, C.2.1 _ hs.2⟩ ⟨zh_blind, fun U hU hWm => ⟨rfl, C.2.2.1.warm hWm, by rw [hU]; exact hW⟩⟩ rfl hk hl.1 hst (lv_room hcat) hd ⟨by omega, by omega⟩
  exact zv_after hrn hL (fun v h' H1 locs1 hq hw hL1 => kk v h' hq p e R s m args below meth c Qf C H1 locs1 _ _ ls hw hL1 (by omega) (by omega) hl)
theorem zv_callIq {y1 : MethodName} {cc1 : ByteArray} {n1 d1 k mc1 ms1 idx : Nat} {As rest : List Value} {b : Nat} {v0 : Option Value} {h0 : zh_H} (hm : zm y.cls idx y1 cc1 n1 none k) (hs : y1.name = "<init>" ∧ Cond.instanceMethod y1 ∈ zw) (hM : zc G l y1 cc1 n1 none d1 (.ref b :: As) h mc1 ms1 (fun v h' => v = v0 ∧ h' = h0)) (hst : st = As.reverse ++ .ref b :: rest) (hk : As.length = k) (hcat : (rest.map fun v => v.category).sum ≤ 8) (hdd : d1 + 1 ≤ d) (hd : decode cc pc = .ok (.invokespecial idx, 3)) (kk : zv G l y cc n r d mc ms (pc + 3) lv (v0.toList ++ rest) h0 Q) : zv G l y cc n r d (mc1 + mc) (ms1 + ms) pc lv st h Q := by
  intro p e R s m args below meth c Qf C H locs cells slots ls hW hL h1 h2 hl
  have hn8 := hm.2.2.2.2
  have hd1 := C.2.2.2.1
  have hrn : va_Run p l e R s m args below meth c H locs cells slots mc1 ms1 (F0 m pc ls st) rest (fun _ oc t => ∃ (v : Option Value) (h' : zh_H), oc = .returned v ∧ (fun v h' => v = v0 ∧ h' = h0) v h' ∧ zh_W G h' t.heap) (fun q => zg_B G ≤ q) := by
    rcases hm.2.1 with hlk | hlk
    · exact va_runI (n := k) ⟨C.1.1, C.1.2.1, C.1.2.2.1, C.1.2.2.2.1, C.2.1⟩ hM ⟨callB_of k C.2.1 (zh_good hm.1) rfl rfl rfl (C.2.1 _ hm.2.2.1) (C.2.1 _ hlk) hm.2.2.2.1 ⟨by show d1 + 1 ≤ _; omega, by show 8 + (n1 + 11) + 30 * d1 ≤ _; omega⟩, hs.1, C.2.1 _ hs.2⟩ ⟨zh_blind, fun U hU hWm => ⟨rfl, C.2.2.1.warm hWm, by rw [hU]; exact hW⟩⟩ rfl hk hl.1 hst (lv_room hcat) hd ⟨by omega, by omega⟩
    · exact va_runIN (n := k) ⟨C.1.1, C.1.2.1, C.1.2.2.1, C.1.2.2.2.1, C.2.1⟩ hM ⟨va_cnB k C.2.1 (zh_good hm.1) rfl rfl rfl (C.2.2.1.2.2.1 _ hlk) (C.2.1 _ hm.2.2.1) hm.2.2.2.1 ⟨by show d1 + 1 ≤ _; omega, by show 8 + (n1 + 11) + 30 * d1 ≤ _; omega⟩, hs.1, C.2.1 _ hs.2⟩ ⟨zh_blind, fun U hU hWm => ⟨rfl, C.2.2.1.warm hWm, by rw [hU]; exact hW⟩⟩ rfl hk hl.1 hst (lv_room hcat) hd ⟨by omega, by omega⟩
  exact zv_after hrn hL (fun v h' H1 locs1 hq hw hL1 => by obtain ⟨rfl, rfl⟩ := hq; exact kk p e R s m args below meth c Qf C H1 locs1 _ _ ls hw hL1 (by omega) (by omega) hl)
theorem zv_objInit {idx : Nat} (hm : Cond.methodLink y.cls idx objectInit ∈ zw) (hi : Cond.instanceMethod objectInit ∈ zw) (hco : Cond.code objectInit ⟨#[0xb1]⟩ 1 none ∈ zw) (hcat : (st.map fun v => v.category).sum ≤ 8) (hdd : 1 ≤ d) (hd : decode cc pc = .ok (.invokespecial idx, 3)) (kk : zv G l y cc n r d mc ms (pc + 3) lv st h Q) : zv G l y cc n r d mc ms pc lv (.ref a :: st) h Q := by
  intro p e R s m args below meth c Qf C H locs cells slots ls hW hL h1 h2 hl
  have hd1 := C.2.2.2.1
  have hrm := lv_room (m := m) (pc := pc) (ls := ls) (rest := .ref a :: st) hcat
  exact W.objInit C.1.1 C.1.2.1 C.1.2.2.2.1 (C.2.1 _ hm) (C.2.1 _ hi) (C.2.1 _ hco) rfl (by rw [C.1.2.2.1]; exact hl.1) rfl hd (by omega) (by omega) (kk p e R s m args below meth c Qf C H locs cells slots ls hW hL h1 h2 hl)
end ZH
