section LAWL
variable {G : zh_G} {l : Launch} {nm ds : String}
theorem and31 (x : Int32) : vp_in (x &&& 31) 32 := by
  rw [vp_in_iff]
  have h : (x &&& 31).toBitVec.toNat ≤ 31 := by
    show (x.toBitVec &&& (31 : Int32).toBitVec).toNat ≤ 31
    rw [BitVec.toNat_and]; exact Nat.and_le_right
  have e : (x &&& 31).toInt = ((x &&& 31).toBitVec.toNat : Int) := by
    show (x &&& 31).toBitVec.toInt = _
    rw [BitVec.toInt_eq_toNat_of_lt (by omega)]
  rw [e]; omega
theorem lt_L {L j : Nat} (hL : L ≤ 3072) (hj : j < 4000) : (nI L - 6 < nI j) ↔ (L : Int) - 6 < j := by
  rw [Int32.lt_iff_toInt_lt, show (6 : Int32) = nI 6 from rfl, pk_sub_toInt (by omega) (by decide), nI_toInt (by omega)]; exact Iff.rfl
set_option maxRecDepth 20000 in
set_option maxHeartbeats 2000000 in
theorem law_loop (hb : zg_s G < zg_B G) (hL : zg_L G ≤ 3072) : ∀ (m k : Nat) (f : Nat → va_E) (nn : Nat) (σ : sg) (R : Nat), LI G f nn σ R → R ≤ k → k + m ≤ 512 → zg_L G < 6 * (k + m) + 6 → zv G l ⟨RL, nm, ds⟩ cL_law 4 (some .boolean) 7 (2 * m) (19 * m) 18 [(3, .int (nI (6 * k))), (2, .ref (zg_B G + 18)), (1, .ref (zg_B G)), (0, .ref (zg_s G))] [] (f, nn) (fun o _ => o = some (.int 1)) := by
  intro m
  induction m with
  | zero =>
    intro k f nn σ R hLI hRk hkm hLk
    refine zv_iload_n dL_law_18 rfl ?_
    refine zv_aload_n dL_law_19 rfl ?_
    refine zv_slen hb dL_law_20 ?_
    refine zv_bipushv (v := 6) dL_law_21 (by decide) ?_
    refine zv_isub dL_law_23 ?_
    refine zv_icmp_gt (tgt := 1033) dL_law_24 (by decide) (fun _ => ?_) (fun c => absurd ((lt_L hL (by omega)).mpr (by omega)) c)
    refine zv_iconstv (v := 1) dL_law_1033 (by decide) ?_
    exact zv_zreturn dL_law_1034 rfl rfl rfl
  | succ m ih =>
    intro k f nn σ R hLI hRk hkm hLk
    obtain ⟨he, P, N, D, ra, pa, hi, hp⟩ := hLI
    refine zv_iload_n dL_law_18 rfl ?_
    refine zv_aload_n dL_law_19 rfl ?_
    refine zv_slen hb dL_law_20 ?_
    refine zv_bipushv (v := 6) dL_law_21 (by decide) ?_
    refine zv_isub dL_law_23 ?_
    refine zv_icmp_gt (tgt := 1033) dL_law_24 (by decide) (fun _ => ?_) (fun c => ?_)
    · refine zv_iconstv (v := 1) dL_law_1033 (by decide) ?_
      exact zv_zreturn dL_law_1034 rfl rfl rfl
    rw [lt_L hL (by omega)] at c
    have hv : ∀ j : Nat, j < 6 → vp_in (nI (6 * k) + nI j) (zg_L G) := fun j hj => by rw [nI_add]; exact vp_in_nI (by omega) (by omega)
    have v0 : vp_in (nI (6 * k)) (zg_L G) := vp_in_nI (by omega) (by omega)
    have v1 : vp_in (nI (6 * k) + 1) (zg_L G) := hv 1 (by decide)
    have v2 : vp_in (nI (6 * k) + 2) (zg_L G) := hv 2 (by decide)
    have v3 : vp_in (nI (6 * k) + 3) (zg_L G) := hv 3 (by decide)
    have v4 : vp_in (nI (6 * k) + 4) (zg_L G) := hv 4 (by decide)
    have v5 : vp_in (nI (6 * k) + 5) (zg_L G) := hv 5 (by decide)
    have K : ∀ (f1 : Nat → va_E) (n1 : Nat) (σ1 : sg) (R1 : Nat), R1 ≤ R + 1 → LI G f1 n1 σ1 R1 → zv G l ⟨RL, nm, ds⟩ cL_law 4 (some .boolean) 7 (2 * m) (19 * m) 1027 [(3, .int (nI (6 * k))), (2, .ref (zg_B G + 18)), (1, .ref (zg_B G)), (0, .ref (zg_s G))] [] (f1, n1) (fun o _ => o = some (.int 1)) := by
      intro f1 n1 σ1 R1 hR1 hL1
      refine zv_iinc dL_law_1027 rfl (by decide) ?_
      refine zv_goto (tgt := 18) dL_law_1030 (by decide) ?_
      refine zv_lv [(3, .int (nI (6 * (k + 1)))), (2, .ref (zg_B G + 18)), (1, .ref (zg_B G)), (0, .ref (zg_s G))] (by simp [zs1, Value.category, nI_add, show nI (6 * k) + 6 = nI (6 * (k + 1)) from nI_add (6 * k) 6, show ((3 : Fin 4) : Nat) = 3 from rfl]) ?_
      exact ih (k + 1) f1 n1 σ1 R1 hL1 (by omega) (by omega) (by omega)
    rw [show 2 * (m + 1) = 2 + 2 * m by omega, show 19 * (m + 1) = 19 + 19 * m by omega]
    refine zv_aload_n dL_law_27 rfl ?_
    refine zv_iload_n dL_law_28 rfl ?_
    refine zv_sald hb v0 dL_law_29 ?_
    refine zv_bipushv (v := 31) dL_law_30 (by decide) ?_
    refine zv_iand dL_law_32 ?_
    obtain ⟨j, hj, ej⟩ := vp_in_of (and31 (zg_x G (nI (6 * k)).toNatClampNeg)) (by decide)
    rw [ej]
    clear ej hv
    rcases j with _ | _ | _ | _ | _ | _ | _ | _ | _ | _ | _ | _ | _ | _ | _ | _ | _ | _ | _ | _ | _ | _ | _ | _ | _ | _ | _ | _ | j
    · refine zv_tableIn (tgt := 160) dL_law_33 (by decide) (by decide) (by rfl) (by decide) ?_
      exact law_rack hb v1 v2 v3 v4 v5 he hp hi (by omega) K
    · refine zv_tableIn (tgt := 203) dL_law_33 (by decide) (by decide) (by rfl) (by decide) ?_
      exact law_hang hb v1 v2 v3 v4 v5 he hp hi (by omega) K
    · refine zv_tableIn (tgt := 226) dL_law_33 (by decide) (by decide) (by rfl) (by decide) ?_
      exact law_share hb v1 v2 v3 v4 v5 he hp hi (by omega) K
    · refine zv_tableIn (tgt := 259) dL_law_33 (by decide) (by decide) (by rfl) (by decide) ?_
      exact law_empty hb v1 v2 v3 v4 v5 he hp hi (by omega) K
    · refine zv_tableIn (tgt := 282) dL_law_33 (by decide) (by decide) (by rfl) (by decide) ?_
      exact law_gauge hb v1 v2 v3 v4 v5 he hp hi (by omega) K
    · refine zv_tableIn (tgt := 345) dL_law_33 (by decide) (by decide) (by rfl) (by decide) ?_
      exact law_probe hb v1 v2 v3 v4 v5 he hp hi (by omega) K
    · refine zv_tableIn (tgt := 384) dL_law_33 (by decide) (by decide) (by rfl) (by decide) ?_
      exact law_line hb v1 v2 v3 v4 v5 he hp hi (by omega) K
    · refine zv_tableIn (tgt := 407) dL_law_33 (by decide) (by decide) (by rfl) (by decide) ?_
      exact law_none hb v1 v2 v3 v4 v5 he hp hi (by omega) K
    · refine zv_tableIn (tgt := 420) dL_law_33 (by decide) (by decide) (by rfl) (by decide) ?_
      exact law_get hb v1 v2 v3 v4 v5 he hp hi (by omega) K
    · refine zv_tableIn (tgt := 453) dL_law_33 (by decide) (by decide) (by rfl) (by decide) ?_
      exact law_set hb v1 v2 v3 v4 v5 he hp hi (by omega) K
    · refine zv_tableIn (tgt := 486) dL_law_33 (by decide) (by decide) (by rfl) (by decide) ?_
      exact law_read hb v1 v2 v3 v4 v5 he hp hi (by omega) K
    · refine zv_tableIn (tgt := 529) dL_law_33 (by decide) (by decide) (by rfl) (by decide) ?_
      exact law_write hb v1 v2 v3 v4 v5 he hp hi (by omega) K
    · refine zv_tableIn (tgt := 572) dL_law_33 (by decide) (by decide) (by rfl) (by decide) ?_
      exact law_size hb v1 v2 v3 v4 v5 he hp hi (by omega) K
    · refine zv_tableIn (tgt := 595) dL_law_33 (by decide) (by decide) (by rfl) (by decide) ?_
      exact law_within hb v1 v2 v3 v4 v5 he hp hi (by omega) K
    · refine zv_tableIn (tgt := 638) dL_law_33 (by decide) (by decide) (by rfl) (by decide) ?_
      exact law_into hb v1 v2 v3 v4 v5 he hp hi (by omega) K
    · refine zv_tableIn (tgt := 691) dL_law_33 (by decide) (by decide) (by rfl) (by decide) ?_
      exact law_pass hb v1 v2 v3 v4 v5 he hp hi (by omega) K
    · refine zv_tableIn (tgt := 734) dL_law_33 (by decide) (by decide) (by rfl) (by decide) ?_
      exact law_takes hb v1 v2 v3 v4 v5 he hp hi (by omega) K
    · refine zv_tableIn (tgt := 757) dL_law_33 (by decide) (by decide) (by rfl) (by decide) ?_
      exact law_gives hb v1 v2 v3 v4 v5 he hp hi (by omega) K
    · refine zv_tableIn (tgt := 780) dL_law_33 (by decide) (by decide) (by rfl) (by decide) ?_
      exact law_step hb v1 v2 v3 v4 v5 he hp hi (by omega) K
    · refine zv_tableIn (tgt := 843) dL_law_33 (by decide) (by decide) (by rfl) (by decide) ?_
      exact law_run hb v1 v2 v3 v4 v5 he hp hi (by omega) K
    · refine zv_tableIn (tgt := 882) dL_law_33 (by decide) (by decide) (by rfl) (by decide) ?_
      exact law_met hb v1 v2 v3 v4 v5 he hp hi (by omega) K
    · refine zv_tableIn (tgt := 905) dL_law_33 (by decide) (by decide) (by rfl) (by decide) ?_
      exact law_clear hb v1 v2 v3 v4 v5 he hp hi (by omega) K
    · refine zv_tableIn (tgt := 918) dL_law_33 (by decide) (by decide) (by rfl) (by decide) ?_
      exact law_fault hb v1 v2 v3 v4 v5 he hp hi (by omega) K
    · refine zv_tableIn (tgt := 931) dL_law_33 (by decide) (by decide) (by rfl) (by decide) ?_
      exact law_faults hb v1 v2 v3 v4 v5 he hp hi (by omega) K
    · refine zv_tableIn (tgt := 954) dL_law_33 (by decide) (by decide) (by rfl) (by decide) ?_
      exact law_has hb v1 v2 v3 v4 v5 he hp hi (by omega) K
    · refine zv_tableIn (tgt := 967) dL_law_33 (by decide) (by decide) (by rfl) (by decide) ?_
      exact law_value hb v1 v2 v3 v4 v5 he hp hi (by omega) K
    · refine zv_tableIn (tgt := 981) dL_law_33 (by decide) (by decide) (by rfl) (by decide) ?_
      exact law_told hb v1 v2 v3 v4 v5 he hp hi (by omega) K
    · refine zv_tableIn (tgt := 1004) dL_law_33 (by decide) (by decide) (by rfl) (by decide) ?_
      exact law_same hb v1 v2 v3 v4 v5 he hp hi (by omega) K
    · refine zv_tableOut (tgt := 1027) dL_law_33 (Or.inr (by rw [nI_toInt (by omega)]; omega)) (by decide) ?_
      refine zv_more (2 * m) (19 * m) (by omega) (by omega) ?_
      exact K f nn σ R (by omega) ⟨he, P, N, D, ra, pa, hi, hp⟩
set_option maxRecDepth 20000 in
theorem law_zv (hb : zg_s G < zg_B G) (hL : zg_L G ≤ 3072) (f0 : Nat → va_E) : zv G l ⟨RL, nm, ds⟩ cL_law 4 (some .boolean) 7 1052 99997 0 [(0, .ref (zg_s G))] [] (f0, zg_B G) (fun o _ => o = some (.int 1)) := by
  refine zv_new (N := 8) (mc := 1051) (ms := 99989) zn_L_7 dL_law_0 ?_
  refine zv_dup dL_law_3 rfl ?_
  refine zv_callI (mc := 1034) (ms := 99885) zm_L_9 zkyX7_init (xX_init veq) rfl rfl (Nat.le_of_ble_eq_true rfl) (by decide) dL_law_4 (fun v h' q => ?_)
  obtain ⟨f1, n1⟩ := h'
  obtain ⟨rfl, rfl, hX⟩ := q
  refine zv_astore_n dL_law_7 (by decide) ?_
  refine zv_new (N := 20) (mc := 1033) (ms := 99865) zn_L_10 dL_law_8 ?_
  refine zv_dup dL_law_11 rfl ?_
  refine zv_callIq (mc := 1024) (ms := 9728) zm_L_12 zkyX8_init (cM_init veq) rfl rfl (Nat.le_of_ble_eq_true rfl) (by decide) dL_law_12 ?_
  refine zv_astore_n dL_law_15 (by decide) ?_
  refine zv_iconstv (v := 0) dL_law_16 (by decide) ?_
  refine zv_istore_n dL_law_17 (by decide) ?_
  refine zv_lv [(3, .int (nI (6 * 0))), (2, .ref (zg_B G + 18)), (1, .ref (zg_B G)), (0, .ref (zg_s G))] (by simp [zs1, Value.category, nI_0, show ((3 : Fin 4) : Nat) = 3 from rfl, show ((2 : Fin 4) : Nat) = 2 from rfl, show ((1 : Fin 4) : Nat) = 1 from rfl]) ?_
  refine law_loop hb hL 512 0 _ _ s0 0 ⟨ms_ms G _ s0, 0, 0, 0, fun _ => 0, fun _ => 0, iv_0, cP_cg (cP_0 hX (Nat.le_refl _) _ _) (fun a ha => ?_)⟩ (Nat.le_refl _) (by decide) (by omega)
  rw [ms_else _ _ _ ha]
  exact vne (by show ¬ a = zg_B G + 18; omega)
end LAWL
