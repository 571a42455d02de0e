section STARTS
variable {s : State} {args : Array Value}
theorem st_arr {ty : FieldType} (h : (Cond.arrayClass ty).before args s = true) : ∃ cA : ClassId, s.vm.findClass ("[" ++ ty.toString) = some cA ∧ ArrOfT s cA ty := by
  obtain ⟨c, k, comp, h1, h2, h3⟩ := Cond.arrayClass_spec h
  exact ⟨c, h1, fun n z => ⟨fun k h => (by cases h), k, h2, comp, h3⟩⟩
theorem st_arrO {C : String} (h : (Cond.arrayOver (.object C)).before args s = true) : ∃ cA : ClassId, ArrOfT s cA (.object C) ∧ va_RA s cA (.object C) := by
  obtain ⟨comp, c, k, h1, -, h2, h3, h4⟩ := Cond.arrayOver_spec h
  exact ⟨c, fun n z => ⟨fun k h => (by cases h), k, h2, comp, h3⟩, k, comp, h2, h3, h1, h4⟩
theorem st_cl (hz : ∀ w ∈ zw, w.before args s = true) : ∃ (dC : Nat → ClassId) (dI : Nat → Nat → Nat), ∀ (k : Nat) (q : vw_C), vwCl[k]? = some q → u_Kn s q.1 q.2.1 q.2.2 (dC k) (dI k) := by
  obtain ⟨c0, i0, n0⟩ := u_known (C := RX0) (T := TX0) (N := 3) (n := 3) hz zu_X0 (hz (.instantiable RX0 3) (zw_in 55 (by decide +kernel) (by decide +kernel)))
  obtain ⟨c1, i1, n1⟩ := u_known (C := RX1) (T := TX1) (N := 3) (n := 3) hz zu_X1 (hz (.instantiable RX1 3) (zw_in 142 (by decide +kernel) (by decide +kernel)))
  obtain ⟨c2, i2, n2⟩ := u_known (C := RX2) (T := TX2) (N := 2) (n := 2) hz zu_X2 (hz (.instantiable RX2 2) (zw_in 218 (by decide +kernel) (by decide +kernel)))
  obtain ⟨c3, i3, n3⟩ := u_known (C := RX4) (T := TX4) (N := 6) (n := 6) hz zu_X4 (hz (.instantiable RX4 6) (zw_in 75 (by decide +kernel) (by decide +kernel)))
  obtain ⟨c4, i4, n4⟩ := u_known (C := RX6) (T := TX6) (N := 3) (n := 3) hz zu_X6 (hz (.instantiable RX6 3) (zw_in 177 (by decide +kernel) (by decide +kernel)))
  obtain ⟨c5, i5, n5⟩ := u_known (C := RX7) (T := TX7) (N := 8) (n := 8) hz zu_X7 (hz (.instantiable RX7 8) (zw_in 45 (by decide +kernel) (by decide +kernel)))
  obtain ⟨c6, i6, n6⟩ := u_known (C := RX8) (T := TX8) (N := 20) (n := 20) hz zu_X8 (hz (.instantiable RX8 20) (zw_in 408 (by decide +kernel) (by decide +kernel)))
  refine ⟨fun k => if k = 0 then c0 else if k = 1 then c1 else if k = 2 then c2 else if k = 3 then c3 else if k = 4 then c4 else if k = 5 then c5 else c6, fun k => if k = 0 then i0 else if k = 1 then i1 else if k = 2 then i2 else if k = 3 then i3 else if k = 4 then i4 else if k = 5 then i5 else i6, ?_⟩
  intro k q hq
  match k, hq with
  | 0, hq => cases hq; exact n0
  | 1, hq => cases hq; exact n1
  | 2, hq => cases hq; exact n2
  | 3, hq => cases hq; exact n3
  | 4, hq => cases hq; exact n4
  | 5, hq => cases hq; exact n5
  | 6, hq => cases hq; exact n6
  | k + 7, hq => simp [vwCl] at hq
theorem st_tab {A : Nat → Prop} (hs : ∀ w ∈ flatC (Jvm.Cond.and given_1 narrow_1), w.before args s = true) (hA : ∀ a : Nat, a < s.heap.size → ¬ A a) : ∃ t : Nat, (Term.static "ProbeRacks" "GOES_INTO" "[I").eval args s none [] s = some (.ref t) ∧ va_T .int t 11 (fun j => .int (zg_tab j)) A s s.heap := by
  refine va_Tof (by decide) (hs (.arrayOf (.static "ProbeRacks" "GOES_INTO" "[I") .int) (by decide +kernel)) (va_eqt (z := 11) (hs (.eq (.length (.static "ProbeRacks" "GOES_INTO" "[I")) (.int 11)) (by decide +kernel))) (fun j hj => ?_) hA
  match j, hj with
  | 0, _ => exact va_eqt (z := 1) (hs (.eq (.elem (.static "ProbeRacks" "GOES_INTO" "[I") (.int 0)) (.int 1)) (by decide +kernel))
  | 1, _ => exact va_eqt (z := 250) (hs (.eq (.elem (.static "ProbeRacks" "GOES_INTO" "[I") (.int 1)) (.int 250)) (by decide +kernel))
  | 2, _ => exact va_eqt (z := 244) (hs (.eq (.elem (.static "ProbeRacks" "GOES_INTO" "[I") (.int 2)) (.int 244)) (by decide +kernel))
  | 3, _ => exact va_eqt (z := 248) (hs (.eq (.elem (.static "ProbeRacks" "GOES_INTO" "[I") (.int 3)) (.int 248)) (by decide +kernel))
  | 4, _ => exact va_eqt (z := 240) (hs (.eq (.elem (.static "ProbeRacks" "GOES_INTO" "[I") (.int 4)) (.int 240)) (by decide +kernel))
  | 5, _ => exact va_eqt (z := 224) (hs (.eq (.elem (.static "ProbeRacks" "GOES_INTO" "[I") (.int 5)) (.int 224)) (by decide +kernel))
  | 6, _ => exact va_eqt (z := 192) (hs (.eq (.elem (.static "ProbeRacks" "GOES_INTO" "[I") (.int 6)) (.int 192)) (by decide +kernel))
  | 7, _ => exact va_eqt (z := 128) (hs (.eq (.elem (.static "ProbeRacks" "GOES_INTO" "[I") (.int 7)) (.int 128)) (by decide +kernel))
  | 8, _ => exact va_eqt (z := 256) (hs (.eq (.elem (.static "ProbeRacks" "GOES_INTO" "[I") (.int 8)) (.int 256)) (by decide +kernel))
  | 9, _ => exact va_eqt (z := 768) (hs (.eq (.elem (.static "ProbeRacks" "GOES_INTO" "[I") (.int 9)) (.int 768)) (by decide +kernel))
  | 10, _ => exact va_eqt (z := 1024) (hs (.eq (.elem (.static "ProbeRacks" "GOES_INTO" "[I") (.int 10)) (.int 1024)) (by decide +kernel))
  | j + 11, hj => exact absurd hj (by omega)
end STARTS
