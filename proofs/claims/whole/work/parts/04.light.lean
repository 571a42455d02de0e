def zw : List Cond := lw_tbl.filter goodWord
theorem zw_in {w : Cond} (i : Nat) (h : lw_tbl[i]? = some w) (hg : goodWord w = true) : w ∈ zw := List.mem_filter.mpr ⟨List.mem_of_getElem? h, hg⟩
theorem zw_good {w : Cond} (h : w ∈ zw) : (w.onTables && w.keeps) = true ∨ ∃ ty, w = .arrayClass ty := good_of_word (List.mem_filter.mp h).2
/-! the light judgement: a method's frame over an abstract heap (contents by address, size); one context for all methods -/
abbrev zh_H : Type := (Nat → va_E) × Nat
abbrev zh_G : Type := va_G × (Nat → ClassId) × Nat × Heap × Nat × Nat × Nat × (Nat → Int32)
abbrev zg_c (G : zh_G) : Nat → ClassId := G.2.1
abbrev zg_B (G : zh_G) : Nat := G.2.2.1
abbrev zg_O (G : zh_G) : Heap := G.2.2.2.1
abbrev zg_a (G : zh_G) : Nat := G.2.2.2.2.1
abbrev zg_s (G : zh_G) : Nat := G.2.2.2.2.2.1
abbrev zg_L (G : zh_G) : Nat := G.2.2.2.2.2.2.1
abbrev zg_x (G : zh_G) : Nat → Int32 := G.2.2.2.2.2.2.2
def zg_tab : Nat → Int32 := fun k => match k with
  | 0 => 1 | 1 => 250 | 2 => 244 | 3 => 248 | 4 => 240 | 5 => 224 | 6 => 192 | 7 => 128 | 8 => 256 | 9 => 768 | _ => 1024
def zh_tys (G : zh_G) : List (ClassId × FieldType) := [(zg_c G 0, .int), (zg_c G 1, .long), (zg_c G 2, .boolean), (zg_c G 3, .object RX5), (zg_c G 4, .object RX4)]
def zh_nF : List (String × Nat × String × String × String) := [(RX7, 76, RX0, "kind", "I"), (RX7, 90, RX0, "amount", "J"), (RX7, 51, RX0, "thing", "LProbeRacks$Thing;"), (RX7, 197, RX4, "op", "I"), (RX7, 194, RX4, "a", "I"), (RX7, 200, RX4, "i", "I"), (RX7, 206, RX4, "b", "I"), (RX7, 203, RX4, "k", "I"), (RX7, 145, RX4, "outcome", "I"), (RX7, 165, RX1, "numbers", "[J"), (RX7, 169, RX6, "things", "[LProbeRacks$Thing;"), (RX0, 33, RX2, "number", "I"), (RX0, 29, RX2, "fine", "Z"), (RX7, 154, RX2, "fine", "Z")]
def zh_nM : List (String × Nat × MethodName) := [(RX7, 17, yX0_init), (RX7, 31, yX4_init), (RX7, 45, yX1_init), (RX3, 1, yX5_init), (RX7, 50, yX6_init), (RX7, 55, yX0_holdNumber), (RX0, 15, yX7_asKind), (RX7, 65, yX2_init), (RX2, 1, yX5_init), (RX7, 68, yX0_holdThing), (RX7, 134, yX4_become)]
def zh_cs : List (String × String) := [(RX2, RX2), (RX1, RX3), (RX6, RX3), (RX1, RX1), (RX6, RX6), (RX1, RX5), (RX2, RX5), (RX6, RX5)]
def zh_nc : List (String × String) := [(RX1, RX2), (RX6, RX2), (RX2, RX3), (RX6, RX1), (RX2, RX1), (RX1, RX6), (RX2, RX6)]
def zh_K (G : zh_G) (U : State) : Prop := va_K G.1 vwCl (zh_tys G) U ∧ (∀ q ∈ zh_nF, va_Nw (.fieldLinkNest q.1 q.2.1 q.2.2.1 q.2.2.2.1 q.2.2.2.2 "ProbeRacks") U) ∧ (∀ q ∈ zh_nM, va_Nw (.methodLinkNest q.1 q.2.1 q.2.2 "ProbeRacks") U) ∧ (∀ q ∈ zh_cs, va_Nw (.castable q.1 q.2) U) ∧ (∀ q ∈ zh_nc, va_Nc q.1 q.2 U) ∧ (va_AO RX5 U ∧ va_AO RX4 U) ∧ va_Z "ProbeRacks" "GOES_INTO" "[I" (.ref (zg_a G)) (fun q => zg_B G ≤ q) U (zg_O G) ∧ va_T .int (zg_a G) 11 (fun j => .int (zg_tab j)) (fun q => zg_B G ≤ q) U (zg_O G) ∧ va_X (zg_s G) (zg_L G) (zg_x G) U (zg_O G)
theorem zh_K.warm {G : zh_G} {s U : State} (hW : s.WarmedH U.vm) (h : zh_K G s) : zh_K G U :=
  ⟨va_K.moved hW.alike h.1, fun q hq => va_Nw.warmF hW (h.2.1 q hq), fun q hq => va_Nw.warmM hW (h.2.2.1 q hq), fun q hq => va_Nw.warmC hW (h.2.2.2.1 q hq), fun q hq => va_Nc.moved hW.alike (h.2.2.2.2.1 q hq), ⟨va_AO.moved hW.alike h.2.2.2.2.2.1.1, va_AO.moved hW.alike h.2.2.2.2.2.1.2⟩, va_Z.moved hW.alike h.2.2.2.2.2.2.1, va_T.moved hW.alike h.2.2.2.2.2.2.2.1, va_X.moved hW.alike h.2.2.2.2.2.2.2.2⟩
def zh_W (G : zh_G) (h : zh_H) (H : Heap) : Prop := H.size = h.2 ∧ zg_B G ≤ h.2 ∧ (∀ q : Nat, q < zg_B G → H[q]? = (zg_O G)[q]?) ∧ ∀ a : Nat, zg_B G ≤ a → a < h.2 → va_at G.1 vwCl (a, h.1 a) H
theorem zh_W.put {G : zh_G} {h : zh_H} {H H1 : Heap} {a : Nat} {e : va_E} (hW : zh_W G h H) (ha : zg_B G ≤ a) (hat : va_at G.1 vwCl (a, e) H1) (z : H1.size = H.size) (oq : ∀ q : Nat, q ≠ a → H1[q]? = H[q]?) : zh_W G (va_up h.1 a e, h.2) H1 := by
  refine ⟨z.trans hW.1, hW.2.1, fun q hq => ?_, fun b hb1 hb2 => ?_⟩
  · rw [oq q (by omega)]; exact hW.2.2.1 q hq
  · by_cases hba : b = a
    · subst hba; simp only [va_up, if_true]; exact hat
    · simp only [va_up, if_neg hba]; exact (hW.2.2.2 b hb1 hb2).kept (oq b hba)
theorem zh_W.push {G : zh_G} {h : zh_H} {H H1 : Heap} {e : va_E} (hW : zh_W G h H) (hat : va_at G.1 vwCl (h.2, e) H1) (z : H1.size = H.size + 1) (oq : ∀ q : Nat, q < H.size → H1[q]? = H[q]?) : zh_W G (va_up h.1 h.2 e, h.2 + 1) H1 := by
  refine ⟨by rw [z, hW.1], Nat.le_trans hW.2.1 (Nat.le_succ _), fun q hq => ?_, fun b hb1 hb2 => ?_⟩
  · rw [oq q (by rw [hW.1]; exact Nat.lt_of_lt_of_le hq hW.2.1)]; exact hW.2.2.1 q hq
  · by_cases hba : b = h.2
    · subst hba; simp only [va_up, if_true]; exact hat
    · simp only [va_up, if_neg hba]
      have hb3 : b < h.2 + 1 := hb2
      have hlt : b < h.2 := by omega
      exact (hW.2.2.2 b hb1 hlt).kept (oq b (by rw [hW.1]; exact hlt))
def zv_rt (cc : ByteArray) (r : Option FieldType) (pc : Nat) (v : Option Value) : Prop :=
  (∃ x, v = some (.int x) ∧ decode cc pc = .ok (.ireturn, 1) ∧ ∃ ty, r = some ty ∧ narrow ty (.int x) = .int x) ∨ (∃ x, v = some (.long x) ∧ r = some .long ∧ decode cc pc = .ok (.lreturn, 1)) ∨ (v = none ∧ r = none ∧ decode cc pc = .ok (.return_, 1))
def zv_ctx (G : zh_G) (l : Launch) (y : MethodName) (cc : ByteArray) (n : Nat) (r : Option FieldType) (d : Nat) (Q : Option Value → zh_H → Prop) (p : Program) (e : Env) (R : Room) (s : State) (m : MethodId) (args : Array Value) (below : List Frame) (meth : Method) (c : Code) (Qf : State → Prop) : Prop :=
  (p.tables.exec = Jvm.exec ∧ c.code = cc ∧ c.maxLocals = n ∧ s.vm.findClass y.cls = some m.cls ∧ meth.name = y.name) ∧ (∀ w ∈ zw, w.before args s = true) ∧ zh_K G s ∧ (d ≤ R.frames ∧ 30 * d ≤ R.locals) ∧
  (∀ (v : Option Value) (h' : zh_H) (H' : Heap) (locs' : List Loc) (pc' : Nat) (ls' : Array Slot), Q v h' → zh_W G h' H' → (∀ q ∈ locs', zg_B G ≤ q.base) → zv_rt cc r pc' v → W p l e R s m args below meth c H' locs' R.cells R.slots Qf (F0 m pc' ls' v.toList))
def zv (G : zh_G) (l : Launch) (y : MethodName) (cc : ByteArray) (n : Nat) (r : Option FieldType) (d mc ms pc : Nat) (lv : List (Nat × Value)) (st : List Value) (h : zh_H) (Q : Option Value → zh_H → Prop) : Prop :=
  ∀ (p : Program) (e : Env) (R : Room) (s : State) (m : MethodId) (args : Array Value) (below : List Frame) (meth : Method) (c : Code) (Qf : State → Prop), zv_ctx G l y cc n r d Q p e R s m args below meth c Qf →
  ∀ (H : Heap) (locs : List Loc) (cells slots : Nat) (ls : Array Slot), zh_W G h H → (∀ q ∈ locs, zg_B G ≤ q.base) → cells + mc ≤ R.cells → slots + ms ≤ R.slots → lv_has ls n lv → W p l e R s m args below meth c H locs cells slots Qf (F0 m pc ls st)
def zc (G : zh_G) (l : Launch) (y : MethodName) (cc : ByteArray) (n : Nat) (r : Option FieldType) (d : Nat) (av : List Value) (h : zh_H) (mc ms : Nat) (Q : Option Value → zh_H → Prop) : Prop :=
  Met l y (.code y cc n r :: zw) { frames := d, cells := mc, slots := ms, locals := 30 * d } (va_Pc av (fun U => zh_K G U ∧ zh_W G h U.heap)) (fun _ _ oc t => ∃ (v : Option Value) (h' : zh_H), oc = .returned v ∧ Q v h' ∧ zh_W G h' t.heap) mc ms (fun q => zg_B G ≤ q)
def zl (lv : List (Nat × Value)) (i : Nat) : Option Value := match lv with
  | [] => none
  | q :: t => if q.1 = i then some q.2 else zl t i
theorem zl_mem {lv : List (Nat × Value)} {i : Nat} {v : Value} (h : zl lv i = some v) : (i, v) ∈ lv := by
  induction lv with
  | nil => simp [zl] at h
  | cons q t ih =>
    unfold zl at h
    split at h
    · next hq => cases h; subst hq; exact List.mem_cons_self
    · exact List.mem_cons_of_mem _ (ih h)
def zs1 (lv : List (Nat × Value)) (i : Nat) (v : Value) : List (Nat × Value) := (i, v) :: lv.filter (fun q => !(q.1 == i) && !(q.1 + 1 == i && q.2.category == 2))
def zs2 (lv : List (Nat × Value)) (i : Nat) (v : Value) : List (Nat × Value) := (i, v) :: lv.filter (fun q => !(q.1 == i) && (!(q.1 == i + 1) && !(q.1 + 1 == i && q.2.category == 2)))
section ZV
variable {G : zh_G} {l : Launch} {y : MethodName} {cc : ByteArray} {n : Nat} {r : Option FieldType} {d mc ms pc : Nat} {lv : List (Nat × Value)} {st : List Value} {h : zh_H} {Q : Option Value → zh_H → Prop}
theorem zc.of (hp : plainName y.cls = true) {av : List Value} (hsl : (lg_sl av).length ≤ n) (kk : zv G l y cc n r d mc ms 0 (lv_args 0 av) [] h Q) : zc G l y cc n r d av h mc ms Q := by
  refine Met.ofW (cc := cc) (maxL := n) (ret := r) hp rfl ?_
  intro p e s m args below meth c s₁ B hml hv
  obtain ⟨rfl, hK, hW⟩ := hv
  have hts := atoms_spec (ws := .code y cc n r :: zw) B.pre
  have hlocks := B.notSynchronized
  have hl := lv_entry av (n := n) hsl
  rw [lg_entry_eq]
  generalize (lg_sl av ++ List.replicate (n - (lg_sl av).length) Slot.unset).toArray = ls at hl ⊢
  refine kk p e _ s m _ below meth c _ ⟨⟨B.exec, B.bytes, hml, findClass_of_methodNamed B.named, (name_of_methodNamed B.named B.method).1⟩, fun w hw => hts w (List.mem_cons_of_mem _ hw), hK, ⟨Nat.le_refl _, Nat.le_refl _⟩, ?_⟩ s.heap [] 0 0 ls hW (fun q hq => by cases hq) (by simp [headSpec]) (by simp [headSpec]) hl
  intro v h' H' locs' pc' ls' hq hW' hL' hrt
  rcases hrt with ⟨x, rfl, hd, ty, hty, hn⟩ | ⟨x, rfl, hty, hd⟩ | ⟨rfl, hty, hd⟩
  · exact W.zret B.exec B.bytes (B.returns.trans hty) hn (fun t ht _ => ⟨_, h', rfl, hq, by rw [ht]; exact hW'⟩) hL' hd
  · exact W.lret B.exec B.bytes (B.returns.trans hty) (fun t ht _ => ⟨_, h', rfl, hq, by rw [ht]; exact hW'⟩) hL' hd
  · exact W.vret B.exec B.bytes (B.returns.trans hty) (fun t ht _ => ⟨_, h', rfl, hq, by rw [ht]; exact hW'⟩) hL' hd
theorem zc.weaken {Q2 : Option Value → zh_H → Prop} {av : List Value} (hq : ∀ v h', Q v h' → Q2 v h') (hM : zc G l y cc n r d av h mc ms Q) : zc G l y cc n r d av h mc ms Q2 := by
  intro p e ha hc hk s m args below hf hs hP hK
  obtain ⟨t, o, h1, h2, h3, ⟨v, h', h4, h5, h6⟩, h7⟩ := hM p e ha hc hk s m args below hf hs hP hK
  exact ⟨t, o, h1, h2, h3, ⟨v, h', h4, hq v h' h5, h6⟩, h7⟩
theorem zv_lv (lv' : List (Nat × Value)) (hsub : ∀ q ∈ lv', q ∈ lv) (kk : zv G l y cc n r d mc ms pc lv' st h Q) : zv G l y cc n r d mc ms pc lv st h Q := by
  intro p e R s m args below meth c Qf C H locs cells slots ls hW hL h1 h2 hl
  exact kk p e R s m args below meth c Qf C H locs cells slots ls hW hL h1 h2 ⟨hl.1, hl.2.1, fun q hq => hl.2.2 q (hsub q hq)⟩
theorem zv_ret {v : Option Value} (hq : Q v h) (hrt : zv_rt cc r pc v) : zv G l y cc n r d mc ms pc lv v.toList h Q := by
  intro p e R s m args below meth c Qf C H locs cells slots ls hW hL h1 h2 hl
  exact W.widen (by omega) (by omega) (C.2.2.2.2 v h H locs pc ls hq hW hL hrt)
theorem zv_ireturn {x : Int32} (hd : decode cc pc = .ok (.ireturn, 1)) (hr : r = some .int) (hq : Q (some (.int x)) h) : zv G l y cc n r d mc ms pc lv [.int x] h Q := zv_ret (v := some (.int x)) hq (Or.inl ⟨x, rfl, hd, _, hr, rfl⟩)
theorem zv_zreturn {x : Int32} (hd : decode cc pc = .ok (.ireturn, 1)) (hr : r = some .boolean) (hn : narrow .boolean (.int x) = .int x) (hq : Q (some (.int x)) h) : zv G l y cc n r d mc ms pc lv [.int x] h Q := zv_ret (v := some (.int x)) hq (Or.inl ⟨x, rfl, hd, _, hr, hn⟩)
theorem zv_lreturn {x : Int64} (hd : decode cc pc = .ok (.lreturn, 1)) (hr : r = some .long) (hq : Q (some (.long x)) h) : zv G l y cc n r d mc ms pc lv [.long x] h Q := zv_ret (v := some (.long x)) hq (Or.inr (Or.inl ⟨x, rfl, hr, hd⟩))
theorem zv_return (hd : decode cc pc = .ok (.return_, 1)) (hr : r = none) (hq : Q none h) : zv G l y cc n r d mc ms pc lv [] h Q := zv_ret (v := none) hq (Or.inr (Or.inr ⟨rfl, hr, hd⟩))
theorem zv_iconst {k : Int} (hd : decode cc pc = .ok (.iconst k, 1)) (kk : zv G l y cc n r d mc ms (pc + 1) lv (.int (Int32.ofInt k) :: st) h Q) : zv G l y cc n r d mc ms pc lv st h Q := by
  intro p e R s m args below meth c Qf C H locs cells slots ls hW hL h1 h2 hl
  exact lv_iconst C.1.1 C.1.2.1 hd rfl (kk p e R s m args below meth c Qf C H locs cells slots ls hW hL h1 h2 hl)
theorem zv_bipush {k : Int} (hd : decode cc pc = .ok (.bipush k, 2)) (kk : zv G l y cc n r d mc ms (pc + 2) lv (.int (Int8.ofInt k).toInt32 :: st) h Q) : zv G l y cc n r d mc ms pc lv st h Q := by
  intro p e R s m args below meth c Qf C H locs cells slots ls hW hL h1 h2 hl
  exact lv_bipush C.1.1 C.1.2.1 hd rfl (kk p e R s m args below meth c Qf C H locs cells slots ls hW hL h1 h2 hl)
theorem zv_sipush {k : Int} (hd : decode cc pc = .ok (.sipush k, 3)) (kk : zv G l y cc n r d mc ms (pc + 3) lv (.int (Int16.ofInt k).toInt32 :: st) h Q) : zv G l y cc n r d mc ms pc lv st h Q := by
  intro p e R s m args below meth c Qf C H locs cells slots ls hW hL h1 h2 hl
  exact lv_sipush C.1.1 C.1.2.1 hd rfl (kk p e R s m args below meth c Qf C H locs cells slots ls hW hL h1 h2 hl)
theorem zv_iconstv {k : Int} {v : Int32} (hd : decode cc pc = .ok (.iconst k, 1)) (hv : Int32.ofInt k = v) (kk : zv G l y cc n r d mc ms (pc + 1) lv (.int v :: st) h Q) : zv G l y cc n r d mc ms pc lv st h Q := by
  intro p e R s m args below meth c Qf C H locs cells slots ls hW hL h1 h2 hl
  exact lv_iconst C.1.1 C.1.2.1 hd hv (kk p e R s m args below meth c Qf C H locs cells slots ls hW hL h1 h2 hl)
theorem zv_bipushv {k : Int} {v : Int32} (hd : decode cc pc = .ok (.bipush k, 2)) (hv : (Int8.ofInt k).toInt32 = v) (kk : zv G l y cc n r d mc ms (pc + 2) lv (.int v :: st) h Q) : zv G l y cc n r d mc ms pc lv st h Q := by
  intro p e R s m args below meth c Qf C H locs cells slots ls hW hL h1 h2 hl
  exact lv_bipush C.1.1 C.1.2.1 hd hv (kk p e R s m args below meth c Qf C H locs cells slots ls hW hL h1 h2 hl)
theorem zv_sipushv {k : Int} {v : Int32} (hd : decode cc pc = .ok (.sipush k, 3)) (hv : (Int16.ofInt k).toInt32 = v) (kk : zv G l y cc n r d mc ms (pc + 3) lv (.int v :: st) h Q) : zv G l y cc n r d mc ms pc lv st h Q := by
  intro p e R s m args below meth c Qf C H locs cells slots ls hW hL h1 h2 hl
  exact lv_sipush C.1.1 C.1.2.1 hd hv (kk p e R s m args below meth c Qf C H locs cells slots ls hW hL h1 h2 hl)
theorem zv_lconstv {k : Fin 2} {v : Int64} (hd : decode cc pc = .ok (.lconst k, 1)) (hv : Int64.ofNat (k : Nat) = v) (kk : zv G l y cc n r d mc ms (pc + 1) lv (.long v :: st) h Q) : zv G l y cc n r d mc ms pc lv st h Q := by
  intro p e R s m args below meth c Qf C H locs cells slots ls hW hL h1 h2 hl
  exact lv_lconst C.1.1 C.1.2.1 hd hv (kk p e R s m args below meth c Qf C H locs cells slots ls hW hL h1 h2 hl)
theorem zv_ldc {k : Nat} {v : Int32} (hd : decode cc pc = .ok (.ldc k, 2)) (hw : Cond.constant y.cls k v ∈ zw) (kk : zv G l y cc n r d mc ms (pc + 2) lv (.int v :: st) h Q) : zv G l y cc n r d mc ms pc lv st h Q := by
  intro p e R s m args below meth c Qf C H locs cells slots ls hW hL h1 h2 hl
  exact lv_ldc C.1.1 C.1.2.1 C.1.2.2.2.1 (C.2.1 _ hw) hd (kk p e R s m args below meth c Qf C H locs cells slots ls hW hL h1 h2 hl)
theorem zv_ldc2 {k : Nat} {v : Int64} (hd : decode cc pc = .ok (.ldc2_w k, 3)) (hw : Cond.constantLong y.cls k v ∈ zw) (kk : zv G l y cc n r d mc ms (pc + 3) lv (.long v :: st) h Q) : zv G l y cc n r d mc ms pc lv st h Q := by
  intro p e R s m args below meth c Qf C H locs cells slots ls hW hL h1 h2 hl
  exact lv_ldc2 C.1.1 C.1.2.1 C.1.2.2.2.1 (C.2.1 _ hw) hd (kk p e R s m args below meth c Qf C H locs cells slots ls hW hL h1 h2 hl)
theorem zv_null (hd : decode cc pc = .ok (.aconst_null, 1)) (kk : zv G l y cc n r d mc ms (pc + 1) lv (.null :: st) h Q) : zv G l y cc n r d mc ms pc lv st h Q := by
  intro p e R s m args below meth c Qf C H locs cells slots ls hW hL h1 h2 hl
  exact lv_null C.1.1 C.1.2.1 hd (kk p e R s m args below meth c Qf C H locs cells slots ls hW hL h1 h2 hl)
theorem zv_iload_n {k : Fin 4} {x : Int32} (hd : decode cc pc = .ok (.iload_n k, 1)) (hk : zl lv k = some (.int x)) (kk : zv G l y cc n r d mc ms (pc + 1) lv (.int x :: st) h Q) : zv G l y cc n r d mc ms pc lv st h Q := by
  intro p e R s m args below meth c Qf C H locs cells slots ls hW hL h1 h2 hl
  exact lv_iload_n C.1.1 C.1.2.1 hd rfl (hl.2.2 _ (zl_mem hk)) (kk p e R s m args below meth c Qf C H locs cells slots ls hW hL h1 h2 hl)
theorem zv_iload {k : Nat} {x : Int32} (hd : decode cc pc = .ok (.iload k, 2)) (hk : zl lv k = some (.int x)) (kk : zv G l y cc n r d mc ms (pc + 2) lv (.int x :: st) h Q) : zv G l y cc n r d mc ms pc lv st h Q := by
  intro p e R s m args below meth c Qf C H locs cells slots ls hW hL h1 h2 hl
  exact lv_iload C.1.1 C.1.2.1 hd (hl.2.2 _ (zl_mem hk)) (kk p e R s m args below meth c Qf C H locs cells slots ls hW hL h1 h2 hl)
theorem zv_lload_n {k : Fin 4} {x : Int64} (hd : decode cc pc = .ok (.lload_n k, 1)) (hk : zl lv k = some (.long x)) (kk : zv G l y cc n r d mc ms (pc + 1) lv (.long x :: st) h Q) : zv G l y cc n r d mc ms pc lv st h Q := by
  intro p e R s m args below meth c Qf C H locs cells slots ls hW hL h1 h2 hl
  exact lv_lload_n C.1.1 C.1.2.1 hd rfl (hl.2.2 _ (zl_mem hk)) (kk p e R s m args below meth c Qf C H locs cells slots ls hW hL h1 h2 hl)
theorem zv_lload {k : Nat} {x : Int64} (hd : decode cc pc = .ok (.lload k, 2)) (hk : zl lv k = some (.long x)) (kk : zv G l y cc n r d mc ms (pc + 2) lv (.long x :: st) h Q) : zv G l y cc n r d mc ms pc lv st h Q := by
  intro p e R s m args below meth c Qf C H locs cells slots ls hW hL h1 h2 hl
  exact lv_lload C.1.1 C.1.2.1 hd (hl.2.2 _ (zl_mem hk)) (kk p e R s m args below meth c Qf C H locs cells slots ls hW hL h1 h2 hl)
theorem zv_aload_n {k : Fin 4} {x : Nat} (hd : decode cc pc = .ok (.aload_n k, 1)) (hk : zl lv k = some (.ref x)) (kk : zv G l y cc n r d mc ms (pc + 1) lv (.ref x :: st) h Q) : zv G l y cc n r d mc ms pc lv st h Q := by
  intro p e R s m args below meth c Qf C H locs cells slots ls hW hL h1 h2 hl
  exact lv_aload_n C.1.1 C.1.2.1 hd rfl (hl.2.2 _ (zl_mem hk)) (kk p e R s m args below meth c Qf C H locs cells slots ls hW hL h1 h2 hl)
theorem zv_aload {k : Nat} {x : Nat} (hd : decode cc pc = .ok (.aload k, 2)) (hk : zl lv k = some (.ref x)) (kk : zv G l y cc n r d mc ms (pc + 2) lv (.ref x :: st) h Q) : zv G l y cc n r d mc ms pc lv st h Q := by
  intro p e R s m args below meth c Qf C H locs cells slots ls hW hL h1 h2 hl
  exact lv_aload C.1.1 C.1.2.1 hd (hl.2.2 _ (zl_mem hk)) (kk p e R s m args below meth c Qf C H locs cells slots ls hW hL h1 h2 hl)
theorem zv_aload_nN {k : Fin 4} (hd : decode cc pc = .ok (.aload_n k, 1)) (hk : zl lv k = some .null) (kk : zv G l y cc n r d mc ms (pc + 1) lv (.null :: st) h Q) : zv G l y cc n r d mc ms pc lv st h Q := by
  intro p e R s m args below meth c Qf C H locs cells slots ls hW hL h1 h2 hl
  exact lv_aload_nN C.1.1 C.1.2.1 hd rfl (hl.2.2 _ (zl_mem hk)) (kk p e R s m args below meth c Qf C H locs cells slots ls hW hL h1 h2 hl)
theorem zv_aloadN {k : Nat} (hd : decode cc pc = .ok (.aload k, 2)) (hk : zl lv k = some .null) (kk : zv G l y cc n r d mc ms (pc + 2) lv (.null :: st) h Q) : zv G l y cc n r d mc ms pc lv st h Q := by
  intro p e R s m args below meth c Qf C H locs cells slots ls hW hL h1 h2 hl
  exact lv_aloadN C.1.1 C.1.2.1 hd (hl.2.2 _ (zl_mem hk)) (kk p e R s m args below meth c Qf C H locs cells slots ls hW hL h1 h2 hl)
theorem zv_istore_n {k : Fin 4} {x : Int32} (hd : decode cc pc = .ok (.istore_n k, 1)) (hn : (k : Nat) < n) (kk : zv G l y cc n r d mc ms (pc + 1) (zs1 lv k (.int x)) st h Q) : zv G l y cc n r d mc ms pc lv (.int x :: st) h Q := by
  intro p e R s m args below meth c Qf C H locs cells slots ls hW hL h1 h2 hl
  exact lv_istore_n C.1.1 C.1.2.1 hd rfl hl hn rfl (fun ls hl => kk p e R s m args below meth c Qf C H locs cells slots ls hW hL h1 h2 hl)
theorem zv_istore {k : Nat} {x : Int32} (hd : decode cc pc = .ok (.istore k, 2)) (hn : k < n) (kk : zv G l y cc n r d mc ms (pc + 2) (zs1 lv k (.int x)) st h Q) : zv G l y cc n r d mc ms pc lv (.int x :: st) h Q := by
  intro p e R s m args below meth c Qf C H locs cells slots ls hW hL h1 h2 hl
  exact lv_istore C.1.1 C.1.2.1 hd hl hn rfl (fun ls hl => kk p e R s m args below meth c Qf C H locs cells slots ls hW hL h1 h2 hl)
theorem zv_astore_n {k : Fin 4} {x : Nat} (hd : decode cc pc = .ok (.astore_n k, 1)) (hn : (k : Nat) < n) (kk : zv G l y cc n r d mc ms (pc + 1) (zs1 lv k (.ref x)) st h Q) : zv G l y cc n r d mc ms pc lv (.ref x :: st) h Q := by
  intro p e R s m args below meth c Qf C H locs cells slots ls hW hL h1 h2 hl
  exact lv_astore_n C.1.1 C.1.2.1 hd rfl hl hn rfl (fun ls hl => kk p e R s m args below meth c Qf C H locs cells slots ls hW hL h1 h2 hl)
theorem zv_astore {k : Nat} {x : Nat} (hd : decode cc pc = .ok (.astore k, 2)) (hn : k < n) (kk : zv G l y cc n r d mc ms (pc + 2) (zs1 lv k (.ref x)) st h Q) : zv G l y cc n r d mc ms pc lv (.ref x :: st) h Q := by
  intro p e R s m args below meth c Qf C H locs cells slots ls hW hL h1 h2 hl
  exact lv_astore C.1.1 C.1.2.1 hd hl hn rfl (fun ls hl => kk p e R s m args below meth c Qf C H locs cells slots ls hW hL h1 h2 hl)
theorem zv_lstore_n {k : Fin 4} {x : Int64} (hd : decode cc pc = .ok (.lstore_n k, 1)) (hn : (k : Nat) + 1 < n) (kk : zv G l y cc n r d mc ms (pc + 1) (zs2 lv k (.long x)) st h Q) : zv G l y cc n r d mc ms pc lv (.long x :: st) h Q := by
  intro p e R s m args below meth c Qf C H locs cells slots ls hW hL h1 h2 hl
  exact lv_lstore_n C.1.1 C.1.2.1 hd rfl hl hn rfl (fun ls hl => kk p e R s m args below meth c Qf C H locs cells slots ls hW hL h1 h2 hl)
theorem zv_lstore {k : Nat} {x : Int64} (hd : decode cc pc = .ok (.lstore k, 2)) (hn : k + 1 < n) (kk : zv G l y cc n r d mc ms (pc + 2) (zs2 lv k (.long x)) st h Q) : zv G l y cc n r d mc ms pc lv (.long x :: st) h Q := by
  intro p e R s m args below meth c Qf C H locs cells slots ls hW hL h1 h2 hl
  exact lv_lstore C.1.1 C.1.2.1 hd hl hn rfl (fun ls hl => kk p e R s m args below meth c Qf C H locs cells slots ls hW hL h1 h2 hl)
theorem zv_iinc {k : Nat} {z : Int} {x : Int32} (hd : decode cc pc = .ok (.iinc k z, 3)) (hk : zl lv k = some (.int x)) (hn : k < n) (kk : zv G l y cc n r d mc ms (pc + 3) (zs1 lv k (.int (x + Int32.ofInt z))) st h Q) : zv G l y cc n r d mc ms pc lv st h Q := by
  intro p e R s m args below meth c Qf C H locs cells slots ls hW hL h1 h2 hl
  obtain ⟨j, hj⟩ := List.getElem?_of_mem (zl_mem hk)
  exact lv_iinc C.1.1 C.1.2.1 hd hl hj rfl hn rfl (fun ls hl => kk p e R s m args below meth c Qf C H locs cells slots ls hW hL h1 h2 hl)
theorem zv_iadd {x y0 : Int32} (hd : decode cc pc = .ok (.iadd, 1)) (kk : zv G l y cc n r d mc ms (pc + 1) lv (.int (x + y0) :: st) h Q) : zv G l y cc n r d mc ms pc lv (.int y0 :: .int x :: st) h Q := by
  intro p e R s m args below meth c Qf C H locs cells slots ls hW hL h1 h2 hl
  exact lv_iadd C.1.1 C.1.2.1 hd (kk p e R s m args below meth c Qf C H locs cells slots ls hW hL h1 h2 hl)
theorem zv_isub {x y0 : Int32} (hd : decode cc pc = .ok (.isub, 1)) (kk : zv G l y cc n r d mc ms (pc + 1) lv (.int (x - y0) :: st) h Q) : zv G l y cc n r d mc ms pc lv (.int y0 :: .int x :: st) h Q := by
  intro p e R s m args below meth c Qf C H locs cells slots ls hW hL h1 h2 hl
  exact lv_isub C.1.1 C.1.2.1 hd (kk p e R s m args below meth c Qf C H locs cells slots ls hW hL h1 h2 hl)
theorem zv_imul {x y0 : Int32} (hd : decode cc pc = .ok (.imul, 1)) (kk : zv G l y cc n r d mc ms (pc + 1) lv (.int (x * y0) :: st) h Q) : zv G l y cc n r d mc ms pc lv (.int y0 :: .int x :: st) h Q := by
  intro p e R s m args below meth c Qf C H locs cells slots ls hW hL h1 h2 hl
  exact lv_imul C.1.1 C.1.2.1 hd (kk p e R s m args below meth c Qf C H locs cells slots ls hW hL h1 h2 hl)
theorem zv_iand {x y0 : Int32} (hd : decode cc pc = .ok (.iand, 1)) (kk : zv G l y cc n r d mc ms (pc + 1) lv (.int (x &&& y0) :: st) h Q) : zv G l y cc n r d mc ms pc lv (.int y0 :: .int x :: st) h Q := by
  intro p e R s m args below meth c Qf C H locs cells slots ls hW hL h1 h2 hl
  exact lv_iand C.1.1 C.1.2.1 hd (kk p e R s m args below meth c Qf C H locs cells slots ls hW hL h1 h2 hl)
theorem zv_ior {x y0 : Int32} (hd : decode cc pc = .ok (.ior, 1)) (kk : zv G l y cc n r d mc ms (pc + 1) lv (.int (x ||| y0) :: st) h Q) : zv G l y cc n r d mc ms pc lv (.int y0 :: .int x :: st) h Q := by
  intro p e R s m args below meth c Qf C H locs cells slots ls hW hL h1 h2 hl
  exact lv_ior C.1.1 C.1.2.1 hd (kk p e R s m args below meth c Qf C H locs cells slots ls hW hL h1 h2 hl)
theorem zv_ishl {x y0 : Int32} (hd : decode cc pc = .ok (.ishl, 1)) (kk : zv G l y cc n r d mc ms (pc + 1) lv (.int (x <<< (y0 &&& 31)) :: st) h Q) : zv G l y cc n r d mc ms pc lv (.int y0 :: .int x :: st) h Q := by
  intro p e R s m args below meth c Qf C H locs cells slots ls hW hL h1 h2 hl
  exact lv_ishl C.1.1 C.1.2.1 hd (kk p e R s m args below meth c Qf C H locs cells slots ls hW hL h1 h2 hl)
theorem zv_ishr {x y0 : Int32} (hd : decode cc pc = .ok (.ishr, 1)) (kk : zv G l y cc n r d mc ms (pc + 1) lv (.int (x >>> (y0 &&& 31)) :: st) h Q) : zv G l y cc n r d mc ms pc lv (.int y0 :: .int x :: st) h Q := by
  intro p e R s m args below meth c Qf C H locs cells slots ls hW hL h1 h2 hl
  exact lv_ishr C.1.1 C.1.2.1 hd (kk p e R s m args below meth c Qf C H locs cells slots ls hW hL h1 h2 hl)
theorem zv_ladd {x y0 : Int64} (hd : decode cc pc = .ok (.ladd, 1)) (kk : zv G l y cc n r d mc ms (pc + 1) lv (.long (x + y0) :: st) h Q) : zv G l y cc n r d mc ms pc lv (.long y0 :: .long x :: st) h Q := by
  intro p e R s m args below meth c Qf C H locs cells slots ls hW hL h1 h2 hl
  exact lv_ladd C.1.1 C.1.2.1 hd (kk p e R s m args below meth c Qf C H locs cells slots ls hW hL h1 h2 hl)
theorem zv_lsub {x y0 : Int64} (hd : decode cc pc = .ok (.lsub, 1)) (kk : zv G l y cc n r d mc ms (pc + 1) lv (.long (x - y0) :: st) h Q) : zv G l y cc n r d mc ms pc lv (.long y0 :: .long x :: st) h Q := by
  intro p e R s m args below meth c Qf C H locs cells slots ls hW hL h1 h2 hl
  exact lv_lsub C.1.1 C.1.2.1 hd (kk p e R s m args below meth c Qf C H locs cells slots ls hW hL h1 h2 hl)
theorem zv_land {x y0 : Int64} (hd : decode cc pc = .ok (.land, 1)) (kk : zv G l y cc n r d mc ms (pc + 1) lv (.long (x &&& y0) :: st) h Q) : zv G l y cc n r d mc ms pc lv (.long y0 :: .long x :: st) h Q := by
  intro p e R s m args below meth c Qf C H locs cells slots ls hW hL h1 h2 hl
  exact lv_land C.1.1 C.1.2.1 hd (kk p e R s m args below meth c Qf C H locs cells slots ls hW hL h1 h2 hl)
theorem zv_lor {x y0 : Int64} (hd : decode cc pc = .ok (.lor, 1)) (kk : zv G l y cc n r d mc ms (pc + 1) lv (.long (x ||| y0) :: st) h Q) : zv G l y cc n r d mc ms pc lv (.long y0 :: .long x :: st) h Q := by
  intro p e R s m args below meth c Qf C H locs cells slots ls hW hL h1 h2 hl
  exact lv_lor C.1.1 C.1.2.1 hd (kk p e R s m args below meth c Qf C H locs cells slots ls hW hL h1 h2 hl)
theorem zv_lshl {x : Int64} {y0 : Int32} (hd : decode cc pc = .ok (.lshl, 1)) (kk : zv G l y cc n r d mc ms (pc + 1) lv (.long (x <<< (y0.toInt64 &&& 63)) :: st) h Q) : zv G l y cc n r d mc ms pc lv (.int y0 :: .long x :: st) h Q := by
  intro p e R s m args below meth c Qf C H locs cells slots ls hW hL h1 h2 hl
  exact lv_lshl C.1.1 C.1.2.1 hd rfl (kk p e R s m args below meth c Qf C H locs cells slots ls hW hL h1 h2 hl)
theorem zv_lcmp {x y0 : Int64} (hd : decode cc pc = .ok (.lcmp, 1)) (kk : zv G l y cc n r d mc ms (pc + 1) lv (.int (lg_cmp x y0) :: st) h Q) : zv G l y cc n r d mc ms pc lv (.long y0 :: .long x :: st) h Q := by
  intro p e R s m args below meth c Qf C H locs cells slots ls hW hL h1 h2 hl
  exact W.lcmp C.1.1 C.1.2.1 hd (kk p e R s m args below meth c Qf C H locs cells slots ls hW hL h1 h2 hl)
theorem zv_i2l {x : Int32} (hd : decode cc pc = .ok (.i2l, 1)) (kk : zv G l y cc n r d mc ms (pc + 1) lv (.long (x.toInt64) :: st) h Q) : zv G l y cc n r d mc ms pc lv (.int x :: st) h Q := by
  intro p e R s m args below meth c Qf C H locs cells slots ls hW hL h1 h2 hl
  exact lv_i2l C.1.1 C.1.2.1 hd rfl (kk p e R s m args below meth c Qf C H locs cells slots ls hW hL h1 h2 hl)
theorem zv_l2i {x : Int64} (hd : decode cc pc = .ok (.l2i, 1)) (kk : zv G l y cc n r d mc ms (pc + 1) lv (.int (x.toInt32) :: st) h Q) : zv G l y cc n r d mc ms pc lv (.long x :: st) h Q := by
  intro p e R s m args below meth c Qf C H locs cells slots ls hW hL h1 h2 hl
  exact lv_l2i C.1.1 C.1.2.1 hd rfl (kk p e R s m args below meth c Qf C H locs cells slots ls hW hL h1 h2 hl)
theorem zv_i2b {x : Int32} (hd : decode cc pc = .ok (.i2b, 1)) (kk : zv G l y cc n r d mc ms (pc + 1) lv (.int (x.toInt8.toInt32) :: st) h Q) : zv G l y cc n r d mc ms pc lv (.int x :: st) h Q := by
  intro p e R s m args below meth c Qf C H locs cells slots ls hW hL h1 h2 hl
  exact lv_i2b C.1.1 C.1.2.1 hd rfl (kk p e R s m args below meth c Qf C H locs cells slots ls hW hL h1 h2 hl)
theorem zv_i2s {x : Int32} (hd : decode cc pc = .ok (.i2s, 1)) (kk : zv G l y cc n r d mc ms (pc + 1) lv (.int (x.toInt16.toInt32) :: st) h Q) : zv G l y cc n r d mc ms pc lv (.int x :: st) h Q := by
  intro p e R s m args below meth c Qf C H locs cells slots ls hW hL h1 h2 hl
  exact lv_i2s C.1.1 C.1.2.1 hd rfl (kk p e R s m args below meth c Qf C H locs cells slots ls hW hL h1 h2 hl)
theorem zv_i2c {x : Int32} (hd : decode cc pc = .ok (.i2c, 1)) (kk : zv G l y cc n r d mc ms (pc + 1) lv (.int ((x.toUInt32 % 65536).toInt32) :: st) h Q) : zv G l y cc n r d mc ms pc lv (.int x :: st) h Q := by
  intro p e R s m args below meth c Qf C H locs cells slots ls hW hL h1 h2 hl
  exact lv_i2c C.1.1 C.1.2.1 hd rfl (kk p e R s m args below meth c Qf C H locs cells slots ls hW hL h1 h2 hl)
theorem zv_dup {v : Value} (hd : decode cc pc = .ok (.dup, 1)) (hv : v.category = 1) (kk : zv G l y cc n r d mc ms (pc + 1) lv (v :: v :: st) h Q) : zv G l y cc n r d mc ms pc lv (v :: st) h Q := by
  intro p e R s m args below meth c Qf C H locs cells slots ls hW hL h1 h2 hl
  exact lv_dup C.1.1 C.1.2.1 hd hv (kk p e R s m args below meth c Qf C H locs cells slots ls hW hL h1 h2 hl)
theorem zv_goto {off : Int} {tgt : Nat} (hd : decode cc pc = .ok (.goto off, 3)) (ht : (pc : Int) + off = (tgt : Int)) (kk : zv G l y cc n r d mc ms tgt lv st h Q) : zv G l y cc n r d mc ms pc lv st h Q := by
  intro p e R s m args below meth c Qf C H locs cells slots ls hW hL h1 h2 hl
  exact lv_goto C.1.1 C.1.2.1 hd ht (kk p e R s m args below meth c Qf C H locs cells slots ls hW hL h1 h2 hl)
theorem zv_ifnonnull {off : Int} {tgt x : Nat} (hd : decode cc pc = .ok (.ifnonnull off, 3)) (ht : (pc : Int) + off = (tgt : Int)) (kk : zv G l y cc n r d mc ms tgt lv st h Q) : zv G l y cc n r d mc ms pc lv (.ref x :: st) h Q := by
  intro p e R s m args below meth c Qf C H locs cells slots ls hW hL h1 h2 hl
  exact lv_ifnonnull C.1.1 C.1.2.1 hd ht (kk p e R s m args below meth c Qf C H locs cells slots ls hW hL h1 h2 hl)
theorem zv_ifnonnullN {off : Int} (hd : decode cc pc = .ok (.ifnonnull off, 3)) (kk : zv G l y cc n r d mc ms (pc + 3) lv st h Q) : zv G l y cc n r d mc ms pc lv (.null :: st) h Q := by
  intro p e R s m args below meth c Qf C H locs cells slots ls hW hL h1 h2 hl
  exact lv_ifnonnullN C.1.1 C.1.2.1 hd (kk p e R s m args below meth c Qf C H locs cells slots ls hW hL h1 h2 hl)
theorem zv_tableIn {dflt lo hi off : Int} {offs : Array Int} {len tgt : Nat} {x : Int32} (hd : decode cc pc = .ok (.tableswitch dflt lo hi offs, len)) (h1 : ¬ x.toInt < lo) (h2 : ¬ hi < x.toInt) (ho : offs[(x.toInt - lo).toNat]? = some off) (ht : (pc : Int) + off = (tgt : Int)) (kk : zv G l y cc n r d mc ms tgt lv st h Q) : zv G l y cc n r d mc ms pc lv (.int x :: st) h Q := by
  intro p e R s m args below meth c Qf C H locs cells slots ls hW hL h1 h2 hl
  exact lv_tableIn C.1.1 C.1.2.1 hd (by assumption) (by assumption) ho ht (kk p e R s m args below meth c Qf C H locs cells slots ls hW hL h1 h2 hl)
theorem zv_tableOut {dflt lo hi : Int} {offs : Array Int} {len tgt : Nat} {x : Int32} (hd : decode cc pc = .ok (.tableswitch dflt lo hi offs, len)) (h0 : x.toInt < lo ∨ hi < x.toInt) (ht : (pc : Int) + dflt = (tgt : Int)) (kk : zv G l y cc n r d mc ms tgt lv st h Q) : zv G l y cc n r d mc ms pc lv (.int x :: st) h Q := by
  intro p e R s m args below meth c Qf C H locs cells slots ls hW hL h1 h2 hl
  exact lv_tableOut C.1.1 C.1.2.1 hd h0 ht (kk p e R s m args below meth c Qf C H locs cells slots ls hW hL h1 h2 hl)
theorem zv_if_eq {off : Int} {tgt : Nat} {x : Int32} (hd : decode cc pc = .ok (.ifCond .eq off, 3)) (ht : (pc : Int) + off = (tgt : Int)) (kt : x = 0 → zv G l y cc n r d mc ms tgt lv st h Q) (kf : ¬ (x = 0) → zv G l y cc n r d mc ms (pc + 3) lv st h Q) : zv G l y cc n r d mc ms pc lv (.int x :: st) h Q := by
  intro p e R s m args below meth c Qf C H locs cells slots ls hW hL h1 h2 hl
  by_cases hc : x = 0
  · exact lv_if_eq C.1.1 C.1.2.1 hd ht (fun _ => kt hc p e R s m args below meth c Qf C H locs cells slots ls hW hL h1 h2 hl) (fun h => by exfalso; first | exact h hc | exact hc h | (apply h; simpa using hc) | (simp at h hc; first | exact h hc | exact hc h | (exact absurd hc (by simpa using h))))
  · exact lv_if_eq C.1.1 C.1.2.1 hd ht (fun h => by exfalso; first | exact hc h | exact h hc | (apply hc; simpa using h) | (simp at h hc; first | exact h hc | exact hc h | (exact absurd hc (by simpa using h)))) (fun _ => kf hc p e R s m args below meth c Qf C H locs cells slots ls hW hL h1 h2 hl)
theorem zv_icmp_eq {off : Int} {tgt : Nat} {x y0 : Int32} (hd : decode cc pc = .ok (.if_icmp .eq off, 3)) (ht : (pc : Int) + off = (tgt : Int)) (kt : x = y0 → zv G l y cc n r d mc ms tgt lv st h Q) (kf : ¬ (x = y0) → zv G l y cc n r d mc ms (pc + 3) lv st h Q) : zv G l y cc n r d mc ms pc lv (.int y0 :: .int x :: st) h Q := by
  intro p e R s m args below meth c Qf C H locs cells slots ls hW hL h1 h2 hl
  by_cases hc : x = y0
  · exact lv_icmp_eq C.1.1 C.1.2.1 hd ht (fun _ => kt hc p e R s m args below meth c Qf C H locs cells slots ls hW hL h1 h2 hl) (fun h => by exfalso; first | exact h hc | exact hc h | (apply h; simpa using hc) | (simp at h hc; first | exact h hc | exact hc h | (exact absurd hc (by simpa using h))))
  · exact lv_icmp_eq C.1.1 C.1.2.1 hd ht (fun h => by exfalso; first | exact hc h | exact h hc | (apply hc; simpa using h) | (simp at h hc; first | exact h hc | exact hc h | (exact absurd hc (by simpa using h)))) (fun _ => kf hc p e R s m args below meth c Qf C H locs cells slots ls hW hL h1 h2 hl)
theorem zv_if_ne {off : Int} {tgt : Nat} {x : Int32} (hd : decode cc pc = .ok (.ifCond .ne off, 3)) (ht : (pc : Int) + off = (tgt : Int)) (kt : ¬ x = 0 → zv G l y cc n r d mc ms tgt lv st h Q) (kf : x = 0 → zv G l y cc n r d mc ms (pc + 3) lv st h Q) : zv G l y cc n r d mc ms pc lv (.int x :: st) h Q := by
  intro p e R s m args below meth c Qf C H locs cells slots ls hW hL h1 h2 hl
  by_cases hc : ¬ x = 0
  · exact lv_if_ne C.1.1 C.1.2.1 hd ht (fun _ => kt hc p e R s m args below meth c Qf C H locs cells slots ls hW hL h1 h2 hl) (fun h => by exfalso; first | exact h hc | exact hc h | (apply h; simpa using hc) | (simp at h hc; first | exact h hc | exact hc h | (exact absurd hc (by simpa using h))))
  · exact lv_if_ne C.1.1 C.1.2.1 hd ht (fun h => by exfalso; first | exact hc h | exact h hc | (apply hc; simpa using h) | (simp at h hc; first | exact h hc | exact hc h | (exact absurd hc (by simpa using h)))) (fun _ => kf (Classical.not_not.mp hc) p e R s m args below meth c Qf C H locs cells slots ls hW hL h1 h2 hl)
theorem zv_icmp_ne {off : Int} {tgt : Nat} {x y0 : Int32} (hd : decode cc pc = .ok (.if_icmp .ne off, 3)) (ht : (pc : Int) + off = (tgt : Int)) (kt : ¬ x = y0 → zv G l y cc n r d mc ms tgt lv st h Q) (kf : x = y0 → zv G l y cc n r d mc ms (pc + 3) lv st h Q) : zv G l y cc n r d mc ms pc lv (.int y0 :: .int x :: st) h Q := by
  intro p e R s m args below meth c Qf C H locs cells slots ls hW hL h1 h2 hl
  by_cases hc : ¬ x = y0
  · exact lv_icmp_ne C.1.1 C.1.2.1 hd ht (fun _ => kt hc p e R s m args below meth c Qf C H locs cells slots ls hW hL h1 h2 hl) (fun h => by exfalso; first | exact h hc | exact hc h | (apply h; simpa using hc) | (simp at h hc; first | exact h hc | exact hc h | (exact absurd hc (by simpa using h))))
  · exact lv_icmp_ne C.1.1 C.1.2.1 hd ht (fun h => by exfalso; first | exact hc h | exact h hc | (apply hc; simpa using h) | (simp at h hc; first | exact h hc | exact hc h | (exact absurd hc (by simpa using h)))) (fun _ => kf (Classical.not_not.mp hc) p e R s m args below meth c Qf C H locs cells slots ls hW hL h1 h2 hl)
theorem zv_if_lt {off : Int} {tgt : Nat} {x : Int32} (hd : decode cc pc = .ok (.ifCond .lt off, 3)) (ht : (pc : Int) + off = (tgt : Int)) (kt : x < 0 → zv G l y cc n r d mc ms tgt lv st h Q) (kf : ¬ (x < 0) → zv G l y cc n r d mc ms (pc + 3) lv st h Q) : zv G l y cc n r d mc ms pc lv (.int x :: st) h Q := by
  intro p e R s m args below meth c Qf C H locs cells slots ls hW hL h1 h2 hl
  by_cases hc : x < 0
  · exact lv_if_lt C.1.1 C.1.2.1 hd ht (fun _ => kt hc p e R s m args below meth c Qf C H locs cells slots ls hW hL h1 h2 hl) (fun h => by exfalso; first | exact h hc | exact hc h | (apply h; simpa using hc) | (simp at h hc; first | exact h hc | exact hc h | (exact absurd hc (by simpa using h))))
  · exact lv_if_lt C.1.1 C.1.2.1 hd ht (fun h => by exfalso; first | exact hc h | exact h hc | (apply hc; simpa using h) | (simp at h hc; first | exact h hc | exact hc h | (exact absurd hc (by simpa using h)))) (fun _ => kf hc p e R s m args below meth c Qf C H locs cells slots ls hW hL h1 h2 hl)
theorem zv_icmp_lt {off : Int} {tgt : Nat} {x y0 : Int32} (hd : decode cc pc = .ok (.if_icmp .lt off, 3)) (ht : (pc : Int) + off = (tgt : Int)) (kt : x < y0 → zv G l y cc n r d mc ms tgt lv st h Q) (kf : ¬ (x < y0) → zv G l y cc n r d mc ms (pc + 3) lv st h Q) : zv G l y cc n r d mc ms pc lv (.int y0 :: .int x :: st) h Q := by
  intro p e R s m args below meth c Qf C H locs cells slots ls hW hL h1 h2 hl
  by_cases hc : x < y0
  · exact lv_icmp_lt C.1.1 C.1.2.1 hd ht (fun _ => kt hc p e R s m args below meth c Qf C H locs cells slots ls hW hL h1 h2 hl) (fun h => by exfalso; first | exact h hc | exact hc h | (apply h; simpa using hc) | (simp at h hc; first | exact h hc | exact hc h | (exact absurd hc (by simpa using h))))
  · exact lv_icmp_lt C.1.1 C.1.2.1 hd ht (fun h => by exfalso; first | exact hc h | exact h hc | (apply hc; simpa using h) | (simp at h hc; first | exact h hc | exact hc h | (exact absurd hc (by simpa using h)))) (fun _ => kf hc p e R s m args below meth c Qf C H locs cells slots ls hW hL h1 h2 hl)
theorem zv_if_ge {off : Int} {tgt : Nat} {x : Int32} (hd : decode cc pc = .ok (.ifCond .ge off, 3)) (ht : (pc : Int) + off = (tgt : Int)) (kt : 0 ≤ x → zv G l y cc n r d mc ms tgt lv st h Q) (kf : ¬ (0 ≤ x) → zv G l y cc n r d mc ms (pc + 3) lv st h Q) : zv G l y cc n r d mc ms pc lv (.int x :: st) h Q := by
  intro p e R s m args below meth c Qf C H locs cells slots ls hW hL h1 h2 hl
  by_cases hc : 0 ≤ x
  · exact lv_if_ge C.1.1 C.1.2.1 hd ht (fun _ => kt hc p e R s m args below meth c Qf C H locs cells slots ls hW hL h1 h2 hl) (fun h => by exfalso; first | exact h hc | exact hc h | (apply h; simpa using hc) | (simp at h hc; first | exact h hc | exact hc h | (exact absurd hc (by simpa using h))))
  · exact lv_if_ge C.1.1 C.1.2.1 hd ht (fun h => by exfalso; first | exact hc h | exact h hc | (apply hc; simpa using h) | (simp at h hc; first | exact h hc | exact hc h | (exact absurd hc (by simpa using h)))) (fun _ => kf hc p e R s m args below meth c Qf C H locs cells slots ls hW hL h1 h2 hl)
theorem zv_icmp_ge {off : Int} {tgt : Nat} {x y0 : Int32} (hd : decode cc pc = .ok (.if_icmp .ge off, 3)) (ht : (pc : Int) + off = (tgt : Int)) (kt : y0 ≤ x → zv G l y cc n r d mc ms tgt lv st h Q) (kf : ¬ (y0 ≤ x) → zv G l y cc n r d mc ms (pc + 3) lv st h Q) : zv G l y cc n r d mc ms pc lv (.int y0 :: .int x :: st) h Q := by
  intro p e R s m args below meth c Qf C H locs cells slots ls hW hL h1 h2 hl
  by_cases hc : y0 ≤ x
  · exact lv_icmp_ge C.1.1 C.1.2.1 hd ht (fun _ => kt hc p e R s m args below meth c Qf C H locs cells slots ls hW hL h1 h2 hl) (fun h => by exfalso; first | exact h hc | exact hc h | (apply h; simpa using hc) | (simp at h hc; first | exact h hc | exact hc h | (exact absurd hc (by simpa using h))))
  · exact lv_icmp_ge C.1.1 C.1.2.1 hd ht (fun h => by exfalso; first | exact hc h | exact h hc | (apply hc; simpa using h) | (simp at h hc; first | exact h hc | exact hc h | (exact absurd hc (by simpa using h)))) (fun _ => kf hc p e R s m args below meth c Qf C H locs cells slots ls hW hL h1 h2 hl)
theorem zv_if_gt {off : Int} {tgt : Nat} {x : Int32} (hd : decode cc pc = .ok (.ifCond .gt off, 3)) (ht : (pc : Int) + off = (tgt : Int)) (kt : 0 < x → zv G l y cc n r d mc ms tgt lv st h Q) (kf : ¬ (0 < x) → zv G l y cc n r d mc ms (pc + 3) lv st h Q) : zv G l y cc n r d mc ms pc lv (.int x :: st) h Q := by
  intro p e R s m args below meth c Qf C H locs cells slots ls hW hL h1 h2 hl
  by_cases hc : 0 < x
  · exact lv_if_gt C.1.1 C.1.2.1 hd ht (fun _ => kt hc p e R s m args below meth c Qf C H locs cells slots ls hW hL h1 h2 hl) (fun h => by exfalso; first | exact h hc | exact hc h | (apply h; simpa using hc) | (simp at h hc; first | exact h hc | exact hc h | (exact absurd hc (by simpa using h))))
  · exact lv_if_gt C.1.1 C.1.2.1 hd ht (fun h => by exfalso; first | exact hc h | exact h hc | (apply hc; simpa using h) | (simp at h hc; first | exact h hc | exact hc h | (exact absurd hc (by simpa using h)))) (fun _ => kf hc p e R s m args below meth c Qf C H locs cells slots ls hW hL h1 h2 hl)
theorem zv_icmp_gt {off : Int} {tgt : Nat} {x y0 : Int32} (hd : decode cc pc = .ok (.if_icmp .gt off, 3)) (ht : (pc : Int) + off = (tgt : Int)) (kt : y0 < x → zv G l y cc n r d mc ms tgt lv st h Q) (kf : ¬ (y0 < x) → zv G l y cc n r d mc ms (pc + 3) lv st h Q) : zv G l y cc n r d mc ms pc lv (.int y0 :: .int x :: st) h Q := by
  intro p e R s m args below meth c Qf C H locs cells slots ls hW hL h1 h2 hl
  by_cases hc : y0 < x
  · exact lv_icmp_gt C.1.1 C.1.2.1 hd ht (fun _ => kt hc p e R s m args below meth c Qf C H locs cells slots ls hW hL h1 h2 hl) (fun h => by exfalso; first | exact h hc | exact hc h | (apply h; simpa using hc) | (simp at h hc; first | exact h hc | exact hc h | (exact absurd hc (by simpa using h))))
  · exact lv_icmp_gt C.1.1 C.1.2.1 hd ht (fun h => by exfalso; first | exact hc h | exact h hc | (apply hc; simpa using h) | (simp at h hc; first | exact h hc | exact hc h | (exact absurd hc (by simpa using h)))) (fun _ => kf hc p e R s m args below meth c Qf C H locs cells slots ls hW hL h1 h2 hl)
theorem zv_if_le {off : Int} {tgt : Nat} {x : Int32} (hd : decode cc pc = .ok (.ifCond .le off, 3)) (ht : (pc : Int) + off = (tgt : Int)) (kt : x ≤ 0 → zv G l y cc n r d mc ms tgt lv st h Q) (kf : ¬ (x ≤ 0) → zv G l y cc n r d mc ms (pc + 3) lv st h Q) : zv G l y cc n r d mc ms pc lv (.int x :: st) h Q := by
  intro p e R s m args below meth c Qf C H locs cells slots ls hW hL h1 h2 hl
  by_cases hc : x ≤ 0
  · exact lv_if_le C.1.1 C.1.2.1 hd ht (fun _ => kt hc p e R s m args below meth c Qf C H locs cells slots ls hW hL h1 h2 hl) (fun h => by exfalso; first | exact h hc | exact hc h | (apply h; simpa using hc) | (simp at h hc; first | exact h hc | exact hc h | (exact absurd hc (by simpa using h))))
  · exact lv_if_le C.1.1 C.1.2.1 hd ht (fun h => by exfalso; first | exact hc h | exact h hc | (apply hc; simpa using h) | (simp at h hc; first | exact h hc | exact hc h | (exact absurd hc (by simpa using h)))) (fun _ => kf hc p e R s m args below meth c Qf C H locs cells slots ls hW hL h1 h2 hl)
theorem zv_icmp_le {off : Int} {tgt : Nat} {x y0 : Int32} (hd : decode cc pc = .ok (.if_icmp .le off, 3)) (ht : (pc : Int) + off = (tgt : Int)) (kt : x ≤ y0 → zv G l y cc n r d mc ms tgt lv st h Q) (kf : ¬ (x ≤ y0) → zv G l y cc n r d mc ms (pc + 3) lv st h Q) : zv G l y cc n r d mc ms pc lv (.int y0 :: .int x :: st) h Q := by
  intro p e R s m args below meth c Qf C H locs cells slots ls hW hL h1 h2 hl
  by_cases hc : x ≤ y0
  · exact lv_icmp_le C.1.1 C.1.2.1 hd ht (fun _ => kt hc p e R s m args below meth c Qf C H locs cells slots ls hW hL h1 h2 hl) (fun h => by exfalso; first | exact h hc | exact hc h | (apply h; simpa using hc) | (simp at h hc; first | exact h hc | exact hc h | (exact absurd hc (by simpa using h))))
  · exact lv_icmp_le C.1.1 C.1.2.1 hd ht (fun h => by exfalso; first | exact hc h | exact h hc | (apply hc; simpa using h) | (simp at h hc; first | exact h hc | exact hc h | (exact absurd hc (by simpa using h)))) (fun _ => kf hc p e R s m args below meth c Qf C H locs cells slots ls hW hL h1 h2 hl)
theorem zv_acmp_ne {off : Int} {tgt : Nat} {rx ry : Option Nat} (hd : decode cc pc = .ok (.if_acmp .ne off, 3)) (ht : (pc : Int) + off = (tgt : Int)) (kt : ¬ rx = ry → zv G l y cc n r d mc ms tgt lv st h Q) (kf : rx = ry → zv G l y cc n r d mc ms (pc + 3) lv st h Q) : zv G l y cc n r d mc ms pc lv (va_rf ry :: va_rf rx :: st) h Q := by
  intro p e R s m args below meth c Qf C H locs cells slots ls hW hL h1 h2 hl
  exact lv_acmp_ne C.1.1 C.1.2.1 hd ht (fun hc => kt hc p e R s m args below meth c Qf C H locs cells slots ls hW hL h1 h2 hl) (fun hc => kf hc p e R s m args below meth c Qf C H locs cells slots ls hW hL h1 h2 hl)
end ZV
