section
-- ===== PART A: goes FIRST, ahead of the names: the tables' words, and 'selects' of the private methods out of them =====
/-- a private method of a class that the tables say can be made, by its rows of tables_1 -/
def lw_okq (q : MethodName × Nat) : Prop := (q.1.cls ≠ "java/lang/invoke/MethodHandle" ∧ q.1.cls ≠ "java/lang/invoke/VarHandle") ∧ Cond.instantiable q.1.cls q.2 ∈ tables_1 ∧ Cond.privateMethod q.1 ∈ tables_1 ∧ Cond.instanceMethod q.1 ∈ tables_1
theorem lw_p0 : lw_okq (⟨"ProbeRacks$Held", "holdNumber", "(IJ)V"⟩, 3) := ⟨⟨by decide +kernel, by decide +kernel⟩, List.mem_of_getElem? (i := 21) (by decide +kernel), List.mem_of_getElem? (i := 173) (by decide +kernel), List.mem_of_getElem? (i := 174) (by decide +kernel)⟩
theorem lw_p1 : lw_okq (⟨"ProbeRacks$Held", "holdThing", "(LProbeRacks$Thing;)V"⟩, 3) := ⟨⟨by decide +kernel, by decide +kernel⟩, List.mem_of_getElem? (i := 21) (by decide +kernel), List.mem_of_getElem? (i := 200) (by decide +kernel), List.mem_of_getElem? (i := 201) (by decide +kernel)⟩
theorem lw_p2 : lw_okq (⟨"ProbeRacks", "answer", "(II)I"⟩, 8) := ⟨⟨by decide +kernel, by decide +kernel⟩, List.mem_of_getElem? (i := 11) (by decide +kernel), List.mem_of_getElem? (i := 231) (by decide +kernel), List.mem_of_getElem? (i := 232) (by decide +kernel)⟩
theorem lw_p3 : lw_okq (⟨"ProbeRacks", "countFault", "(I)V"⟩, 8) := ⟨⟨by decide +kernel, by decide +kernel⟩, List.mem_of_getElem? (i := 11) (by decide +kernel), List.mem_of_getElem? (i := 235) (by decide +kernel), List.mem_of_getElem? (i := 236) (by decide +kernel)⟩
theorem lw_p4 : lw_okq (⟨"ProbeRacks", "readWithin", "(LProbeRacks$Thing;II)I"⟩, 8) := ⟨⟨by decide +kernel, by decide +kernel⟩, List.mem_of_getElem? (i := 11) (by decide +kernel), List.mem_of_getElem? (i := 280) (by decide +kernel), List.mem_of_getElem? (i := 281) (by decide +kernel)⟩
theorem lw_p5 : lw_okq (⟨"ProbeRacks", "takeInner", "(LProbeRacks$Thing;I)I"⟩, 8) := ⟨⟨by decide +kernel, by decide +kernel⟩, List.mem_of_getElem? (i := 11) (by decide +kernel), List.mem_of_getElem? (i := 284) (by decide +kernel), List.mem_of_getElem? (i := 285) (by decide +kernel)⟩
theorem lw_p6 : lw_okq (⟨"ProbeRacks", "writeWithin", "(LProbeRacks$Thing;III)I"⟩, 8) := ⟨⟨by decide +kernel, by decide +kernel⟩, List.mem_of_getElem? (i := 11) (by decide +kernel), List.mem_of_getElem? (i := 292) (by decide +kernel), List.mem_of_getElem? (i := 293) (by decide +kernel)⟩
theorem lw_p7 : lw_okq (⟨"ProbeRacks", "passPlace", "(LProbeRacks$Thing;LProbeRacks$Thing;II)I"⟩, 8) := ⟨⟨by decide +kernel, by decide +kernel⟩, List.mem_of_getElem? (i := 11) (by decide +kernel), List.mem_of_getElem? (i := 300) (by decide +kernel), List.mem_of_getElem? (i := 301) (by decide +kernel)⟩
theorem lw_p8 : lw_okq (⟨"ProbeRacks$Step", "become", "(IIIII)V"⟩, 6) := ⟨⟨by decide +kernel, by decide +kernel⟩, List.mem_of_getElem? (i := 41) (by decide +kernel), List.mem_of_getElem? (i := 322) (by decide +kernel), List.mem_of_getElem? (i := 323) (by decide +kernel)⟩
theorem lw_p9 : lw_okq (⟨"ProbeRacks", "forgetRun", "()V"⟩, 8) := ⟨⟨by decide +kernel, by decide +kernel⟩, List.mem_of_getElem? (i := 11) (by decide +kernel), List.mem_of_getElem? (i := 330) (by decide +kernel), List.mem_of_getElem? (i := 331) (by decide +kernel)⟩
theorem lw_p10 : lw_okq (⟨"ProbeRacks", "doStep", "(LProbeRacks$Step;)I"⟩, 8) := ⟨⟨by decide +kernel, by decide +kernel⟩, List.mem_of_getElem? (i := 11) (by decide +kernel), List.mem_of_getElem? (i := 334) (by decide +kernel), List.mem_of_getElem? (i := 335) (by decide +kernel)⟩
theorem lw_p11 : lw_okq (⟨"ProbeRacks", "movePlace", "(LProbeRacks$Thing;ILProbeRacks$Thing;I)I"⟩, 8) := ⟨⟨by decide +kernel, by decide +kernel⟩, List.mem_of_getElem? (i := 11) (by decide +kernel), List.mem_of_getElem? (i := 338) (by decide +kernel), List.mem_of_getElem? (i := 339) (by decide +kernel)⟩
theorem lw_p12 : lw_okq (⟨"ProbeRacksModel", "newRow", "(II)I"⟩, 20) := ⟨⟨by decide +kernel, by decide +kernel⟩, List.mem_of_getElem? (i := 374) (by decide +kernel), List.mem_of_getElem? (i := 456) (by decide +kernel), List.mem_of_getElem? (i := 457) (by decide +kernel)⟩
theorem lw_p13 : lw_okq (⟨"ProbeRacksModel", "hold", "(IJ)V"⟩, 20) := ⟨⟨by decide +kernel, by decide +kernel⟩, List.mem_of_getElem? (i := 374) (by decide +kernel), List.mem_of_getElem? (i := 480) (by decide +kernel), List.mem_of_getElem? (i := 481) (by decide +kernel)⟩
theorem lw_p14 : lw_okq (⟨"ProbeRacksModel", "doGet", "(II)I"⟩, 20) := ⟨⟨by decide +kernel, by decide +kernel⟩, List.mem_of_getElem? (i := 374) (by decide +kernel), List.mem_of_getElem? (i := 501) (by decide +kernel), List.mem_of_getElem? (i := 502) (by decide +kernel)⟩
theorem lw_p15 : lw_okq (⟨"ProbeRacksModel", "getFault", "(III)I"⟩, 20) := ⟨⟨by decide +kernel, by decide +kernel⟩, List.mem_of_getElem? (i := 374) (by decide +kernel), List.mem_of_getElem? (i := 505) (by decide +kernel), List.mem_of_getElem? (i := 506) (by decide +kernel)⟩
def lw_privs_1 : List (MethodName × Nat) := [(⟨"ProbeRacks$Held", "holdNumber", "(IJ)V"⟩, 3), (⟨"ProbeRacks$Held", "holdThing", "(LProbeRacks$Thing;)V"⟩, 3), (⟨"ProbeRacks", "answer", "(II)I"⟩, 8), (⟨"ProbeRacks", "countFault", "(I)V"⟩, 8), (⟨"ProbeRacks", "readWithin", "(LProbeRacks$Thing;II)I"⟩, 8), (⟨"ProbeRacks", "takeInner", "(LProbeRacks$Thing;I)I"⟩, 8), (⟨"ProbeRacks", "writeWithin", "(LProbeRacks$Thing;III)I"⟩, 8), (⟨"ProbeRacks", "passPlace", "(LProbeRacks$Thing;LProbeRacks$Thing;II)I"⟩, 8), (⟨"ProbeRacks$Step", "become", "(IIIII)V"⟩, 6), (⟨"ProbeRacks", "forgetRun", "()V"⟩, 8), (⟨"ProbeRacks", "doStep", "(LProbeRacks$Step;)I"⟩, 8), (⟨"ProbeRacks", "movePlace", "(LProbeRacks$Thing;ILProbeRacks$Thing;I)I"⟩, 8), (⟨"ProbeRacksModel", "newRow", "(II)I"⟩, 20), (⟨"ProbeRacksModel", "hold", "(IJ)V"⟩, 20), (⟨"ProbeRacksModel", "doGet", "(II)I"⟩, 20), (⟨"ProbeRacksModel", "getFault", "(III)I"⟩, 20)]
theorem lw_r1 : ∀ q ∈ lw_privs_1, lw_okq q := List.forall_mem_cons.mpr ⟨lw_p0, List.forall_mem_cons.mpr ⟨lw_p1, List.forall_mem_cons.mpr ⟨lw_p2, List.forall_mem_cons.mpr ⟨lw_p3, List.forall_mem_cons.mpr ⟨lw_p4, List.forall_mem_cons.mpr ⟨lw_p5, List.forall_mem_cons.mpr ⟨lw_p6, List.forall_mem_cons.mpr ⟨lw_p7, List.forall_mem_cons.mpr ⟨lw_p8, List.forall_mem_cons.mpr ⟨lw_p9, List.forall_mem_cons.mpr ⟨lw_p10, List.forall_mem_cons.mpr ⟨lw_p11, List.forall_mem_cons.mpr ⟨lw_p12, List.forall_mem_cons.mpr ⟨lw_p13, List.forall_mem_cons.mpr ⟨lw_p14, List.forall_mem_cons.mpr ⟨lw_p15, fun _ h => absurd h List.not_mem_nil⟩⟩⟩⟩⟩⟩⟩⟩⟩⟩⟩⟩⟩⟩⟩⟩
theorem lw_p16 : lw_okq (⟨"ProbeRacksModel", "gets", "(II)V"⟩, 20) := ⟨⟨by decide +kernel, by decide +kernel⟩, List.mem_of_getElem? (i := 374) (by decide +kernel), List.mem_of_getElem? (i := 509) (by decide +kernel), List.mem_of_getElem? (i := 510) (by decide +kernel)⟩
theorem lw_p17 : lw_okq (⟨"ProbeRacksModel", "answer", "(II)I"⟩, 20) := ⟨⟨by decide +kernel, by decide +kernel⟩, List.mem_of_getElem? (i := 374) (by decide +kernel), List.mem_of_getElem? (i := 517) (by decide +kernel), List.mem_of_getElem? (i := 518) (by decide +kernel)⟩
theorem lw_p18 : lw_okq (⟨"ProbeRacksModel", "met1", "(I)I"⟩, 20) := ⟨⟨by decide +kernel, by decide +kernel⟩, List.mem_of_getElem? (i := 374) (by decide +kernel), List.mem_of_getElem? (i := 521) (by decide +kernel), List.mem_of_getElem? (i := 522) (by decide +kernel)⟩
theorem lw_p19 : lw_okq (⟨"ProbeRacksModel", "doSet", "(II)I"⟩, 20) := ⟨⟨by decide +kernel, by decide +kernel⟩, List.mem_of_getElem? (i := 374) (by decide +kernel), List.mem_of_getElem? (i := 529) (by decide +kernel), List.mem_of_getElem? (i := 530) (by decide +kernel)⟩
theorem lw_p20 : lw_okq (⟨"ProbeRacksModel", "setFault", "(II)I"⟩, 20) := ⟨⟨by decide +kernel, by decide +kernel⟩, List.mem_of_getElem? (i := 374) (by decide +kernel), List.mem_of_getElem? (i := 533) (by decide +kernel), List.mem_of_getElem? (i := 534) (by decide +kernel)⟩
theorem lw_p21 : lw_okq (⟨"ProbeRacksModel", "isNumbers", "(I)Z"⟩, 20) := ⟨⟨by decide +kernel, by decide +kernel⟩, List.mem_of_getElem? (i := 374) (by decide +kernel), List.mem_of_getElem? (i := 537) (by decide +kernel), List.mem_of_getElem? (i := 538) (by decide +kernel)⟩
theorem lw_p22 : lw_okq (⟨"ProbeRacksModel", "unfit", "(I)Z"⟩, 20) := ⟨⟨by decide +kernel, by decide +kernel⟩, List.mem_of_getElem? (i := 374) (by decide +kernel), List.mem_of_getElem? (i := 541) (by decide +kernel), List.mem_of_getElem? (i := 542) (by decide +kernel)⟩
theorem lw_p23 : lw_okq (⟨"ProbeRacksModel", "doRead", "(IIII)I"⟩, 20) := ⟨⟨by decide +kernel, by decide +kernel⟩, List.mem_of_getElem? (i := 374) (by decide +kernel), List.mem_of_getElem? (i := 552) (by decide +kernel), List.mem_of_getElem? (i := 553) (by decide +kernel)⟩
theorem lw_p24 : lw_okq (⟨"ProbeRacksModel", "readFault", "(IIII)I"⟩, 20) := ⟨⟨by decide +kernel, by decide +kernel⟩, List.mem_of_getElem? (i := 374) (by decide +kernel), List.mem_of_getElem? (i := 556) (by decide +kernel), List.mem_of_getElem? (i := 557) (by decide +kernel)⟩
theorem lw_p25 : lw_okq (⟨"ProbeRacksModel", "doWrite", "(IIIIJ)I"⟩, 20) := ⟨⟨by decide +kernel, by decide +kernel⟩, List.mem_of_getElem? (i := 374) (by decide +kernel), List.mem_of_getElem? (i := 564) (by decide +kernel), List.mem_of_getElem? (i := 565) (by decide +kernel)⟩
theorem lw_p26 : lw_okq (⟨"ProbeRacksModel", "writeFault", "(IIII)I"⟩, 20) := ⟨⟨by decide +kernel, by decide +kernel⟩, List.mem_of_getElem? (i := 374) (by decide +kernel), List.mem_of_getElem? (i := 568) (by decide +kernel), List.mem_of_getElem? (i := 569) (by decide +kernel)⟩
theorem lw_p27 : lw_okq (⟨"ProbeRacksModel", "sizeFault", "(I)I"⟩, 20) := ⟨⟨by decide +kernel, by decide +kernel⟩, List.mem_of_getElem? (i := 374) (by decide +kernel), List.mem_of_getElem? (i := 576) (by decide +kernel), List.mem_of_getElem? (i := 577) (by decide +kernel)⟩
theorem lw_p28 : lw_okq (⟨"ProbeRacksModel", "doWithin", "(III)I"⟩, 20) := ⟨⟨by decide +kernel, by decide +kernel⟩, List.mem_of_getElem? (i := 374) (by decide +kernel), List.mem_of_getElem? (i := 584) (by decide +kernel), List.mem_of_getElem? (i := 585) (by decide +kernel)⟩
theorem lw_p29 : lw_okq (⟨"ProbeRacksModel", "finds", "(II)I"⟩, 20) := ⟨⟨by decide +kernel, by decide +kernel⟩, List.mem_of_getElem? (i := 374) (by decide +kernel), List.mem_of_getElem? (i := 588) (by decide +kernel), List.mem_of_getElem? (i := 589) (by decide +kernel)⟩
theorem lw_p30 : lw_okq (⟨"ProbeRacksModel", "kinds", "(IZ)I"⟩, 20) := ⟨⟨by decide +kernel, by decide +kernel⟩, List.mem_of_getElem? (i := 374) (by decide +kernel), List.mem_of_getElem? (i := 604) (by decide +kernel), List.mem_of_getElem? (i := 605) (by decide +kernel)⟩
theorem lw_p31 : lw_okq (⟨"ProbeRacksModel", "firstFault", "(I)I"⟩, 20) := ⟨⟨by decide +kernel, by decide +kernel⟩, List.mem_of_getElem? (i := 374) (by decide +kernel), List.mem_of_getElem? (i := 608) (by decide +kernel), List.mem_of_getElem? (i := 609) (by decide +kernel)⟩
def lw_privs_2 : List (MethodName × Nat) := [(⟨"ProbeRacksModel", "gets", "(II)V"⟩, 20), (⟨"ProbeRacksModel", "answer", "(II)I"⟩, 20), (⟨"ProbeRacksModel", "met1", "(I)I"⟩, 20), (⟨"ProbeRacksModel", "doSet", "(II)I"⟩, 20), (⟨"ProbeRacksModel", "setFault", "(II)I"⟩, 20), (⟨"ProbeRacksModel", "isNumbers", "(I)Z"⟩, 20), (⟨"ProbeRacksModel", "unfit", "(I)Z"⟩, 20), (⟨"ProbeRacksModel", "doRead", "(IIII)I"⟩, 20), (⟨"ProbeRacksModel", "readFault", "(IIII)I"⟩, 20), (⟨"ProbeRacksModel", "doWrite", "(IIIIJ)I"⟩, 20), (⟨"ProbeRacksModel", "writeFault", "(IIII)I"⟩, 20), (⟨"ProbeRacksModel", "sizeFault", "(I)I"⟩, 20), (⟨"ProbeRacksModel", "doWithin", "(III)I"⟩, 20), (⟨"ProbeRacksModel", "finds", "(II)I"⟩, 20), (⟨"ProbeRacksModel", "kinds", "(IZ)I"⟩, 20), (⟨"ProbeRacksModel", "firstFault", "(I)I"⟩, 20)]
theorem lw_r2 : ∀ q ∈ lw_privs_2, lw_okq q := List.forall_mem_cons.mpr ⟨lw_p16, List.forall_mem_cons.mpr ⟨lw_p17, List.forall_mem_cons.mpr ⟨lw_p18, List.forall_mem_cons.mpr ⟨lw_p19, List.forall_mem_cons.mpr ⟨lw_p20, List.forall_mem_cons.mpr ⟨lw_p21, List.forall_mem_cons.mpr ⟨lw_p22, List.forall_mem_cons.mpr ⟨lw_p23, List.forall_mem_cons.mpr ⟨lw_p24, List.forall_mem_cons.mpr ⟨lw_p25, List.forall_mem_cons.mpr ⟨lw_p26, List.forall_mem_cons.mpr ⟨lw_p27, List.forall_mem_cons.mpr ⟨lw_p28, List.forall_mem_cons.mpr ⟨lw_p29, List.forall_mem_cons.mpr ⟨lw_p30, List.forall_mem_cons.mpr ⟨lw_p31, fun _ h => absurd h List.not_mem_nil⟩⟩⟩⟩⟩⟩⟩⟩⟩⟩⟩⟩⟩⟩⟩⟩
theorem lw_p32 : lw_okq (⟨"ProbeRacksModel", "does", "(I)I"⟩, 20) := ⟨⟨by decide +kernel, by decide +kernel⟩, List.mem_of_getElem? (i := 374) (by decide +kernel), List.mem_of_getElem? (i := 626) (by decide +kernel), List.mem_of_getElem? (i := 627) (by decide +kernel)⟩
theorem lw_p33 : lw_okq (⟨"ProbeRacksModel", "moves", "(IIII)I"⟩, 20) := ⟨⟨by decide +kernel, by decide +kernel⟩, List.mem_of_getElem? (i := 374) (by decide +kernel), List.mem_of_getElem? (i := 630) (by decide +kernel), List.mem_of_getElem? (i := 631) (by decide +kernel)⟩
def lw_privs_3 : List (MethodName × Nat) := [(⟨"ProbeRacksModel", "does", "(I)I"⟩, 20), (⟨"ProbeRacksModel", "moves", "(IIII)I"⟩, 20)]
theorem lw_r3 : ∀ q ∈ lw_privs_3, lw_okq q := List.forall_mem_cons.mpr ⟨lw_p32, List.forall_mem_cons.mpr ⟨lw_p33, fun _ h => absurd h List.not_mem_nil⟩⟩
def lw_privs : List (MethodName × Nat) := lw_privs_1 ++ (lw_privs_2 ++ (lw_privs_3))
def lw_tbl : List Cond := k2_sels lw_privs ++ tables_1
theorem lw_privs_ok : ∀ q ∈ lw_privs, lw_okq q := by
  show ∀ q ∈ lw_privs_1 ++ (lw_privs_2 ++ (lw_privs_3)), lw_okq q
  exact List.forall_mem_append.mpr ⟨lw_r1, List.forall_mem_append.mpr ⟨lw_r2, lw_r3⟩⟩
end
section

theorem goodIn_r {big : List Cond} (ws : List Cond) (ps : List Nat) (hp : ws = ps.filterMap (fun i => big[i]?)) (h : ws.all goodWord = true) : GoodIn big ws := by
  intro w hw
  have h1 := List.all_eq_true.mp h w hw
  rw [hp] at hw
  obtain ⟨i, -, hi⟩ := List.mem_filterMap.mp hw
  have hm : w ∈ big := by first | exact List.mem_of_getElem? hi | exact List.getElem?_mem hi
  exact ⟨hm, good_of_word h1⟩
theorem goodIn_app {big a b : List Cond} (ha : GoodIn big a) (hb : GoodIn big b) : GoodIn big (a ++ b) := fun w h => (List.mem_append.mp h).elim (ha w) (hb w)
theorem goodIn_ca {big a b : List Cond} {c : Cond} (ha : GoodIn big (c :: a)) (hb : GoodIn big b) : GoodIn big (c :: (a ++ b)) := fun w h => (List.mem_cons.mp h).elim (fun e => ha w (List.mem_cons.mpr (Or.inl e))) (fun h => (List.mem_append.mp h).elim (fun h => ha w (List.mem_cons.mpr (Or.inr h))) (hb w))
theorem goodIn_sub {big ws : List Cond} (hm : ∀ w ∈ ws, w ∈ big) (h : ws.all goodWord = true) : GoodIn big ws := fun w hw => ⟨hm w hw, good_of_word (List.all_eq_true.mp h w hw)⟩



def RX0 : String := "ProbeRacks$Held"
def TX0 : u_T := fun k => match k with
  | 0 => ("ProbeRacks$Held", "kind", "I", false)
  | 1 => ("ProbeRacks$Held", "amount", "J", false)
  | _ => ("ProbeRacks$Held", "thing", "LProbeRacks$Thing;", false)
def tyX0 : Nat → FieldType := fun k => match k with
  | 0 => .int
  | 1 => .long
  | _ => .object "ProbeRacks$Thing"
abbrev wsX00 : List Cond := u_ws RX0 TX0 3
theorem nmX0 : ∀ a, a < 3 → ∀ b, b < 3 → a ≠ b → (TX0 a).2.1 ≠ (TX0 b).2.1 := by decide +kernel
theorem tyX0_ok : ∀ k, k < 3 → parseFieldDescriptor (TX0 k).2.2.1 = some (tyX0 k) := by decide +kernel
abbrev cX0_init : ByteArray := prog_2_method_1_code
def yX0_init : MethodName := ⟨RX0, "<init>", "()V"⟩
abbrev cX0_holdNumber : ByteArray := prog_2_method_2_code
def yX0_holdNumber : MethodName := ⟨RX0, "holdNumber", "(IJ)V"⟩
abbrev cX0_holdThing : ByteArray := prog_2_method_3_code
def yX0_holdThing : MethodName := ⟨RX0, "holdThing", "(LProbeRacks$Thing;)V"⟩
def RX1 : String := "ProbeRacks$NumberRow"
def TX1 : u_T := fun k => match k with
  | 0 => ("ProbeRacks$Row", "kind", "I", true)
  | 1 => ("ProbeRacks$Row", "places", "I", true)
  | _ => ("ProbeRacks$NumberRow", "numbers", "[J", true)
def tyX1 : Nat → FieldType := fun k => match k with
  | 0 => .int
  | 1 => .int
  | _ => .array .long
abbrev wsX10 : List Cond := u_ws RX1 TX1 3
theorem nmX1 : ∀ a, a < 3 → ∀ b, b < 3 → a ≠ b → (TX1 a).2.1 ≠ (TX1 b).2.1 := by decide +kernel
theorem tyX1_ok : ∀ k, k < 3 → parseFieldDescriptor (TX1 k).2.2.1 = some (tyX1 k) := by decide +kernel
abbrev cX1_init : ByteArray := prog_3_method_1_code
def yX1_init : MethodName := ⟨RX1, "<init>", "(II)V"⟩
def RX2 : String := "ProbeRacks$Probe"
def TX2 : u_T := fun k => match k with
  | 0 => ("ProbeRacks$Probe", "number", "I", true)
  | _ => ("ProbeRacks$Probe", "fine", "Z", true)
def tyX2 : Nat → FieldType := fun k => match k with
  | 0 => .int
  | _ => .boolean
abbrev wsX20 : List Cond := u_ws RX2 TX2 2
theorem nmX2 : ∀ a, a < 2 → ∀ b, b < 2 → a ≠ b → (TX2 a).2.1 ≠ (TX2 b).2.1 := by decide +kernel
theorem tyX2_ok : ∀ k, k < 2 → parseFieldDescriptor (TX2 k).2.2.1 = some (tyX2 k) := by decide +kernel
abbrev cX2_init : ByteArray := prog_4_method_1_code
def yX2_init : MethodName := ⟨RX2, "<init>", "(IZ)V"⟩
def RX3 : String := "ProbeRacks$Row"
def TX3 : u_T := fun k => match k with
  | _ => ("", "", "", false)
def tyX3 : Nat → FieldType := fun k => match k with
  | _ => .int
abbrev wsX30 : List Cond := u_ws RX3 TX3 0
theorem nmX3 : ∀ a, a < 0 → ∀ b, b < 0 → a ≠ b → (TX3 a).2.1 ≠ (TX3 b).2.1 := by decide +kernel
theorem tyX3_ok : ∀ k, k < 0 → parseFieldDescriptor (TX3 k).2.2.1 = some (tyX3 k) := by decide +kernel
abbrev cX3_init : ByteArray := prog_5_method_1_code
def yX3_init : MethodName := ⟨RX3, "<init>", "(II)V"⟩
def RX4 : String := "ProbeRacks$Step"
def TX4 : u_T := fun k => match k with
  | 0 => ("ProbeRacks$Step", "op", "I", false)
  | 1 => ("ProbeRacks$Step", "a", "I", false)
  | 2 => ("ProbeRacks$Step", "i", "I", false)
  | 3 => ("ProbeRacks$Step", "b", "I", false)
  | 4 => ("ProbeRacks$Step", "k", "I", false)
  | _ => ("ProbeRacks$Step", "outcome", "I", false)
def tyX4 : Nat → FieldType := fun k => match k with
  | 0 => .int
  | 1 => .int
  | 2 => .int
  | 3 => .int
  | 4 => .int
  | _ => .int
abbrev wsX40 : List Cond := u_ws RX4 TX4 6
theorem nmX4 : ∀ a, a < 6 → ∀ b, b < 6 → a ≠ b → (TX4 a).2.1 ≠ (TX4 b).2.1 := by decide +kernel
theorem tyX4_ok : ∀ k, k < 6 → parseFieldDescriptor (TX4 k).2.2.1 = some (tyX4 k) := by decide +kernel
abbrev cX4_init : ByteArray := prog_6_method_1_code
def yX4_init : MethodName := ⟨RX4, "<init>", "()V"⟩
abbrev cX4_become : ByteArray := prog_6_method_2_code
def yX4_become : MethodName := ⟨RX4, "become", "(IIIII)V"⟩
def RX5 : String := "ProbeRacks$Thing"
def TX5 : u_T := fun k => match k with
  | _ => ("", "", "", false)
def tyX5 : Nat → FieldType := fun k => match k with
  | _ => .int
abbrev wsX50 : List Cond := u_ws RX5 TX5 0
theorem nmX5 : ∀ a, a < 0 → ∀ b, b < 0 → a ≠ b → (TX5 a).2.1 ≠ (TX5 b).2.1 := by decide +kernel
theorem tyX5_ok : ∀ k, k < 0 → parseFieldDescriptor (TX5 k).2.2.1 = some (tyX5 k) := by decide +kernel
abbrev cX5_init : ByteArray := prog_7_method_1_code
def yX5_init : MethodName := ⟨RX5, "<init>", "()V"⟩
def RX6 : String := "ProbeRacks$ThingRow"
def TX6 : u_T := fun k => match k with
  | 0 => ("ProbeRacks$Row", "kind", "I", true)
  | 1 => ("ProbeRacks$Row", "places", "I", true)
  | _ => ("ProbeRacks$ThingRow", "things", "[LProbeRacks$Thing;", true)
def tyX6 : Nat → FieldType := fun k => match k with
  | 0 => .int
  | 1 => .int
  | _ => .array (.object "ProbeRacks$Thing")
abbrev wsX60 : List Cond := u_ws RX6 TX6 3
theorem nmX6 : ∀ a, a < 3 → ∀ b, b < 3 → a ≠ b → (TX6 a).2.1 ≠ (TX6 b).2.1 := by decide +kernel
theorem tyX6_ok : ∀ k, k < 3 → parseFieldDescriptor (TX6 k).2.2.1 = some (tyX6 k) := by decide +kernel
abbrev cX6_init : ByteArray := prog_8_method_1_code
def yX6_init : MethodName := ⟨RX6, "<init>", "(II)V"⟩
def RX7 : String := "ProbeRacks"
def TX7 : u_T := fun k => match k with
  | 0 => ("ProbeRacks", "racks", "[LProbeRacks$Thing;", true)
  | 1 => ("ProbeRacks", "inGauge", "LProbeRacks$Held;", true)
  | 2 => ("ProbeRacks", "inHand", "LProbeRacks$Held;", true)
  | 3 => ("ProbeRacks", "steps", "[LProbeRacks$Step;", true)
  | 4 => ("ProbeRacks", "faultCounts", "[I", true)
  | 5 => ("ProbeRacks", "stepCount", "I", false)
  | 6 => ("ProbeRacks", "probeCount", "I", false)
  | _ => ("ProbeRacks", "latestFault", "I", false)
def tyX7 : Nat → FieldType := fun k => match k with
  | 0 => .array (.object "ProbeRacks$Thing")
  | 1 => .object "ProbeRacks$Held"
  | 2 => .object "ProbeRacks$Held"
  | 3 => .array (.object "ProbeRacks$Step")
  | 4 => .array .int
  | 5 => .int
  | 6 => .int
  | _ => .int
abbrev wsX70 : List Cond := u_ws RX7 TX7 8
theorem nmX7 : ∀ a, a < 8 → ∀ b, b < 8 → a ≠ b → (TX7 a).2.1 ≠ (TX7 b).2.1 := by decide +kernel
theorem tyX7_ok : ∀ k, k < 8 → parseFieldDescriptor (TX7 k).2.2.1 = some (tyX7 k) := by decide +kernel
abbrev cX7_init : ByteArray := prog_1_method_1_code
def yX7_init : MethodName := ⟨RX7, "<init>", "()V"⟩
abbrev cX7_rack : ByteArray := prog_1_method_2_code
def yX7_rack : MethodName := ⟨RX7, "rack", "(III)I"⟩
abbrev cX7_hang : ByteArray := prog_1_method_3_code
def yX7_hang : MethodName := ⟨RX7, "hang", "(I)I"⟩
abbrev cX7_share : ByteArray := prog_1_method_4_code
def yX7_share : MethodName := ⟨RX7, "share", "(II)I"⟩
abbrev cX7_empty : ByteArray := prog_1_method_5_code
def yX7_empty : MethodName := ⟨RX7, "empty", "(I)I"⟩
abbrev cX7_gauge : ByteArray := prog_1_method_6_code
def yX7_gauge : MethodName := ⟨RX7, "gauge", "(IJ)I"⟩
abbrev cX7_probe : ByteArray := prog_1_method_7_code
def yX7_probe : MethodName := ⟨RX7, "probe", "(Z)I"⟩
abbrev cX7_line : ByteArray := prog_1_method_8_code
def yX7_line : MethodName := ⟨RX7, "line", "(I)I"⟩
abbrev cX7_none : ByteArray := prog_1_method_9_code
def yX7_none : MethodName := ⟨RX7, "none", "()I"⟩
abbrev cX7_get : ByteArray := prog_1_method_10_code
def yX7_get : MethodName := ⟨RX7, "get", "(II)I"⟩
abbrev cX7_set : ByteArray := prog_1_method_11_code
def yX7_set : MethodName := ⟨RX7, "set", "(II)I"⟩
abbrev cX7_read : ByteArray := prog_1_method_12_code
def yX7_read : MethodName := ⟨RX7, "read", "(III)I"⟩
abbrev cX7_write : ByteArray := prog_1_method_13_code
def yX7_write : MethodName := ⟨RX7, "write", "(III)I"⟩
abbrev cX7_size : ByteArray := prog_1_method_14_code
def yX7_size : MethodName := ⟨RX7, "size", "(I)I"⟩
abbrev cX7_within : ByteArray := prog_1_method_15_code
def yX7_within : MethodName := ⟨RX7, "within", "(III)I"⟩
abbrev cX7_into : ByteArray := prog_1_method_16_code
def yX7_into : MethodName := ⟨RX7, "into", "(IIII)I"⟩
abbrev cX7_pass : ByteArray := prog_1_method_17_code
def yX7_pass : MethodName := ⟨RX7, "pass", "(III)I"⟩
abbrev cX7_takes : ByteArray := prog_1_method_18_code
def yX7_takes : MethodName := ⟨RX7, "takes", "(I)I"⟩
abbrev cX7_gives : ByteArray := prog_1_method_19_code
def yX7_gives : MethodName := ⟨RX7, "gives", "(I)I"⟩
abbrev cX7_step : ByteArray := prog_1_method_20_code
def yX7_step : MethodName := ⟨RX7, "step", "(IIIII)I"⟩
abbrev cX7_run : ByteArray := prog_1_method_21_code
def yX7_run : MethodName := ⟨RX7, "run", "(Z)I"⟩
abbrev cX7_met : ByteArray := prog_1_method_22_code
def yX7_met : MethodName := ⟨RX7, "met", "(I)I"⟩
abbrev cX7_clear : ByteArray := prog_1_method_23_code
def yX7_clear : MethodName := ⟨RX7, "clear", "()I"⟩
abbrev cX7_fault : ByteArray := prog_1_method_24_code
def yX7_fault : MethodName := ⟨RX7, "fault", "()I"⟩
abbrev cX7_faults : ByteArray := prog_1_method_25_code
def yX7_faults : MethodName := ⟨RX7, "faults", "(I)I"⟩
abbrev cX7_has : ByteArray := prog_1_method_26_code
def yX7_has : MethodName := ⟨RX7, "has", "()I"⟩
abbrev cX7_value : ByteArray := prog_1_method_27_code
def yX7_value : MethodName := ⟨RX7, "value", "()J"⟩
abbrev cX7_told : ByteArray := prog_1_method_28_code
def yX7_told : MethodName := ⟨RX7, "told", "(I)I"⟩
abbrev cX7_same : ByteArray := prog_1_method_29_code
def yX7_same : MethodName := ⟨RX7, "same", "(I)I"⟩
abbrev cX7_isRack : ByteArray := prog_1_method_30_code
def yX7_isRack : MethodName := ⟨RX7, "isRack", "(I)Z"⟩
abbrev cX7_isNumberKind : ByteArray := prog_1_method_31_code
def yX7_isNumberKind : MethodName := ⟨RX7, "isNumberKind", "(I)Z"⟩
abbrev cX7_goesInto : ByteArray := prog_1_method_32_code
def yX7_goesInto : MethodName := ⟨RX7, "goesInto", "(II)Z"⟩
abbrev cX7_asKind : ByteArray := prog_1_method_33_code
def yX7_asKind : MethodName := ⟨RX7, "asKind", "(IJ)J"⟩
abbrev cX7_answer : ByteArray := prog_1_method_34_code
def yX7_answer : MethodName := ⟨RX7, "answer", "(II)I"⟩
abbrev cX7_countFault : ByteArray := prog_1_method_35_code
def yX7_countFault : MethodName := ⟨RX7, "countFault", "(I)V"⟩
abbrev cX7_rowFault : ByteArray := prog_1_method_36_code
def yX7_rowFault : MethodName := ⟨RX7, "rowFault", "(LProbeRacks$Thing;)I"⟩
abbrev cX7_placeFault : ByteArray := prog_1_method_37_code
def yX7_placeFault : MethodName := ⟨RX7, "placeFault", "(LProbeRacks$Thing;I)I"⟩
abbrev cX7_placesOf : ByteArray := prog_1_method_38_code
def yX7_placesOf : MethodName := ⟨RX7, "placesOf", "(LProbeRacks$Thing;)I"⟩
abbrev cX7_getPlace : ByteArray := prog_1_method_39_code
def yX7_getPlace : MethodName := ⟨RX7, "getPlace", "(LProbeRacks$Thing;ILProbeRacks$Held;)I"⟩
abbrev cX7_setPlace : ByteArray := prog_1_method_40_code
def yX7_setPlace : MethodName := ⟨RX7, "setPlace", "(LProbeRacks$Thing;ILProbeRacks$Held;)I"⟩
abbrev cX7_setNumber : ByteArray := prog_1_method_41_code
def yX7_setNumber : MethodName := ⟨RX7, "setNumber", "(LProbeRacks$NumberRow;ILProbeRacks$Held;)I"⟩
abbrev cX7_setThing : ByteArray := prog_1_method_42_code
def yX7_setThing : MethodName := ⟨RX7, "setThing", "(LProbeRacks$ThingRow;ILProbeRacks$Held;)I"⟩
abbrev cX7_readPlace : ByteArray := prog_1_method_43_code
def yX7_readPlace : MethodName := ⟨RX7, "readPlace", "(LProbeRacks$Thing;IILProbeRacks$Held;)I"⟩
abbrev cX7_writePlace : ByteArray := prog_1_method_44_code
def yX7_writePlace : MethodName := ⟨RX7, "writePlace", "(LProbeRacks$Thing;IIJ)I"⟩
abbrev cX7_readWithin : ByteArray := prog_1_method_45_code
def yX7_readWithin : MethodName := ⟨RX7, "readWithin", "(LProbeRacks$Thing;II)I"⟩
abbrev cX7_writeWithin : ByteArray := prog_1_method_46_code
def yX7_writeWithin : MethodName := ⟨RX7, "writeWithin", "(LProbeRacks$Thing;III)I"⟩
abbrev cX7_takeInner : ByteArray := prog_1_method_47_code
def yX7_takeInner : MethodName := ⟨RX7, "takeInner", "(LProbeRacks$Thing;I)I"⟩
abbrev cX7_passPlace : ByteArray := prog_1_method_48_code
def yX7_passPlace : MethodName := ⟨RX7, "passPlace", "(LProbeRacks$Thing;LProbeRacks$Thing;II)I"⟩
abbrev cX7_movePlace : ByteArray := prog_1_method_49_code
def yX7_movePlace : MethodName := ⟨RX7, "movePlace", "(LProbeRacks$Thing;ILProbeRacks$Thing;I)I"⟩
abbrev cX7_kindsTaken : ByteArray := prog_1_method_50_code
def yX7_kindsTaken : MethodName := ⟨RX7, "kindsTaken", "(LProbeRacks$Thing;)I"⟩
abbrev cX7_kindsGiven : ByteArray := prog_1_method_51_code
def yX7_kindsGiven : MethodName := ⟨RX7, "kindsGiven", "(LProbeRacks$Thing;)I"⟩
abbrev cX7_forgetRun : ByteArray := prog_1_method_52_code
def yX7_forgetRun : MethodName := ⟨RX7, "forgetRun", "()V"⟩
abbrev cX7_doStep : ByteArray := prog_1_method_53_code
def yX7_doStep : MethodName := ⟨RX7, "doStep", "(LProbeRacks$Step;)I"⟩
def RX8 : String := "ProbeRacksModel"
def TX8 : u_T := fun k => match k with
  | 0 => ("ProbeRacksModel", "thing", "[I", true)
  | 1 => ("ProbeRacksModel", "which", "[I", true)
  | 2 => ("ProbeRacksModel", "has", "I", false)
  | 3 => ("ProbeRacksModel", "hasKind", "I", false)
  | 4 => ("ProbeRacksModel", "hasValue", "J", false)
  | 5 => ("ProbeRacksModel", "hasWhich", "I", false)
  | 6 => ("ProbeRacksModel", "probes", "I", false)
  | 7 => ("ProbeRacksModel", "isFine", "[Z", true)
  | 8 => ("ProbeRacksModel", "rows", "I", false)
  | 9 => ("ProbeRacksModel", "kindOf", "[I", true)
  | 10 => ("ProbeRacksModel", "sizeOf", "[I", true)
  | 11 => ("ProbeRacksModel", "place", "[J", true)
  | 12 => ("ProbeRacksModel", "steps", "I", false)
  | 13 => ("ProbeRacksModel", "stepOf", "[I", true)
  | 14 => ("ProbeRacksModel", "done", "I", false)
  | 15 => ("ProbeRacksModel", "doneFault", "[I", true)
  | 16 => ("ProbeRacksModel", "fault", "I", false)
  | 17 => ("ProbeRacksModel", "faults", "[I", true)
  | 18 => ("ProbeRacksModel", "foundThing", "I", false)
  | _ => ("ProbeRacksModel", "foundWhich", "I", false)
def tyX8 : Nat → FieldType := fun k => match k with
  | 0 => .array .int
  | 1 => .array .int
  | 2 => .int
  | 3 => .int
  | 4 => .long
  | 5 => .int
  | 6 => .int
  | 7 => .array .boolean
  | 8 => .int
  | 9 => .array .int
  | 10 => .array .int
  | 11 => .array .long
  | 12 => .int
  | 13 => .array .int
  | 14 => .int
  | 15 => .array .int
  | 16 => .int
  | 17 => .array .int
  | 18 => .int
  | _ => .int
abbrev wsX80 : List Cond := u_ws RX8 TX8 20
theorem nmX8 : ∀ a, a < 20 → ∀ b, b < 20 → a ≠ b → (TX8 a).2.1 ≠ (TX8 b).2.1 := by decide +kernel
theorem tyX8_ok : ∀ k, k < 20 → parseFieldDescriptor (TX8 k).2.2.1 = some (tyX8 k) := by decide +kernel
abbrev cX8_init : ByteArray := prog_10_method_1_code
def yX8_init : MethodName := ⟨RX8, "<init>", "()V"⟩
abbrev cX8_beyond : ByteArray := prog_10_method_2_code
def yX8_beyond : MethodName := ⟨RX8, "beyond", "(JJJ)Z"⟩
abbrev cX8_no : ByteArray := prog_10_method_3_code
def yX8_no : MethodName := ⟨RX8, "no", "(I)Z"⟩
abbrev cX8_goes : ByteArray := prog_10_method_4_code
def yX8_goes : MethodName := ⟨RX8, "goes", "(II)Z"⟩
abbrev cX8_as : ByteArray := prog_10_method_5_code
def yX8_as : MethodName := ⟨RX8, "as", "(IJ)J"⟩
abbrev cX8_met1 : ByteArray := prog_10_method_6_code
def yX8_met1 : MethodName := ⟨RX8, "met1", "(I)I"⟩
abbrev cX8_answer : ByteArray := prog_10_method_7_code
def yX8_answer : MethodName := ⟨RX8, "answer", "(II)I"⟩
abbrev cX8_newRow : ByteArray := prog_10_method_8_code
def yX8_newRow : MethodName := ⟨RX8, "newRow", "(II)I"⟩
abbrev cX8_rack : ByteArray := prog_10_method_9_code
def yX8_rack : MethodName := ⟨RX8, "rack", "(III)I"⟩
abbrev cX8_hang : ByteArray := prog_10_method_10_code
def yX8_hang : MethodName := ⟨RX8, "hang", "(I)I"⟩
abbrev cX8_share : ByteArray := prog_10_method_11_code
def yX8_share : MethodName := ⟨RX8, "share", "(II)I"⟩
abbrev cX8_empty : ByteArray := prog_10_method_12_code
def yX8_empty : MethodName := ⟨RX8, "empty", "(I)I"⟩
abbrev cX8_hold : ByteArray := prog_10_method_13_code
def yX8_hold : MethodName := ⟨RX8, "hold", "(IJ)V"⟩
abbrev cX8_gauge : ByteArray := prog_10_method_14_code
def yX8_gauge : MethodName := ⟨RX8, "gauge", "(IJ)I"⟩
abbrev cX8_probe : ByteArray := prog_10_method_15_code
def yX8_probe : MethodName := ⟨RX8, "probe", "(Z)I"⟩
abbrev cX8_line : ByteArray := prog_10_method_16_code
def yX8_line : MethodName := ⟨RX8, "line", "(I)I"⟩
abbrev cX8_none : ByteArray := prog_10_method_17_code
def yX8_none : MethodName := ⟨RX8, "none", "()I"⟩
abbrev cX8_getFault : ByteArray := prog_10_method_18_code
def yX8_getFault : MethodName := ⟨RX8, "getFault", "(III)I"⟩
abbrev cX8_isNumbers : ByteArray := prog_10_method_19_code
def yX8_isNumbers : MethodName := ⟨RX8, "isNumbers", "(I)Z"⟩
abbrev cX8_readFault : ByteArray := prog_10_method_20_code
def yX8_readFault : MethodName := ⟨RX8, "readFault", "(IIII)I"⟩
abbrev cX8_writeFault : ByteArray := prog_10_method_21_code
def yX8_writeFault : MethodName := ⟨RX8, "writeFault", "(IIII)I"⟩
abbrev cX8_unfit : ByteArray := prog_10_method_22_code
def yX8_unfit : MethodName := ⟨RX8, "unfit", "(I)Z"⟩
abbrev cX8_setFault : ByteArray := prog_10_method_23_code
def yX8_setFault : MethodName := ⟨RX8, "setFault", "(II)I"⟩
abbrev cX8_gets : ByteArray := prog_10_method_24_code
def yX8_gets : MethodName := ⟨RX8, "gets", "(II)V"⟩
abbrev cX8_doGet : ByteArray := prog_10_method_25_code
def yX8_doGet : MethodName := ⟨RX8, "doGet", "(II)I"⟩
abbrev cX8_get : ByteArray := prog_10_method_26_code
def yX8_get : MethodName := ⟨RX8, "get", "(II)I"⟩
abbrev cX8_doSet : ByteArray := prog_10_method_27_code
def yX8_doSet : MethodName := ⟨RX8, "doSet", "(II)I"⟩
abbrev cX8_set : ByteArray := prog_10_method_28_code
def yX8_set : MethodName := ⟨RX8, "set", "(II)I"⟩
abbrev cX8_doRead : ByteArray := prog_10_method_29_code
def yX8_doRead : MethodName := ⟨RX8, "doRead", "(IIII)I"⟩
abbrev cX8_read : ByteArray := prog_10_method_30_code
def yX8_read : MethodName := ⟨RX8, "read", "(III)I"⟩
abbrev cX8_doWrite : ByteArray := prog_10_method_31_code
def yX8_doWrite : MethodName := ⟨RX8, "doWrite", "(IIIIJ)I"⟩
abbrev cX8_write : ByteArray := prog_10_method_32_code
def yX8_write : MethodName := ⟨RX8, "write", "(III)I"⟩
abbrev cX8_sizeFault : ByteArray := prog_10_method_33_code
def yX8_sizeFault : MethodName := ⟨RX8, "sizeFault", "(I)I"⟩
abbrev cX8_size : ByteArray := prog_10_method_34_code
def yX8_size : MethodName := ⟨RX8, "size", "(I)I"⟩
abbrev cX8_finds : ByteArray := prog_10_method_35_code
def yX8_finds : MethodName := ⟨RX8, "finds", "(II)I"⟩
abbrev cX8_doWithin : ByteArray := prog_10_method_36_code
def yX8_doWithin : MethodName := ⟨RX8, "doWithin", "(III)I"⟩
abbrev cX8_within : ByteArray := prog_10_method_37_code
def yX8_within : MethodName := ⟨RX8, "within", "(III)I"⟩
abbrev cX8_into : ByteArray := prog_10_method_38_code
def yX8_into : MethodName := ⟨RX8, "into", "(IIII)I"⟩
abbrev cX8_pass : ByteArray := prog_10_method_39_code
def yX8_pass : MethodName := ⟨RX8, "pass", "(III)I"⟩
abbrev cX8_firstFault : ByteArray := prog_10_method_40_code
def yX8_firstFault : MethodName := ⟨RX8, "firstFault", "(I)I"⟩
abbrev cX8_kinds : ByteArray := prog_10_method_41_code
def yX8_kinds : MethodName := ⟨RX8, "kinds", "(IZ)I"⟩
abbrev cX8_takes : ByteArray := prog_10_method_42_code
def yX8_takes : MethodName := ⟨RX8, "takes", "(I)I"⟩
abbrev cX8_gives : ByteArray := prog_10_method_43_code
def yX8_gives : MethodName := ⟨RX8, "gives", "(I)I"⟩
abbrev cX8_step : ByteArray := prog_10_method_44_code
def yX8_step : MethodName := ⟨RX8, "step", "(IIIII)I"⟩
abbrev cX8_does : ByteArray := prog_10_method_45_code
def yX8_does : MethodName := ⟨RX8, "does", "(I)I"⟩
abbrev cX8_moves : ByteArray := prog_10_method_46_code
def yX8_moves : MethodName := ⟨RX8, "moves", "(IIII)I"⟩
abbrev cX8_run : ByteArray := prog_10_method_47_code
def yX8_run : MethodName := ⟨RX8, "run", "(Z)I"⟩
abbrev cX8_met : ByteArray := prog_10_method_48_code
def yX8_met : MethodName := ⟨RX8, "met", "(I)I"⟩
abbrev cX8_clear : ByteArray := prog_10_method_49_code
def yX8_clear : MethodName := ⟨RX8, "clear", "()I"⟩
abbrev cX8_fault : ByteArray := prog_10_method_50_code
def yX8_fault : MethodName := ⟨RX8, "fault", "()I"⟩
abbrev cX8_faults : ByteArray := prog_10_method_51_code
def yX8_faults : MethodName := ⟨RX8, "faults", "(I)I"⟩
abbrev cX8_has : ByteArray := prog_10_method_52_code
def yX8_has : MethodName := ⟨RX8, "has", "()I"⟩
abbrev cX8_value : ByteArray := prog_10_method_53_code
def yX8_value : MethodName := ⟨RX8, "value", "()J"⟩
abbrev cX8_told : ByteArray := prog_10_method_54_code
def yX8_told : MethodName := ⟨RX8, "told", "(I)I"⟩
abbrev cX8_same : ByteArray := prog_10_method_55_code
def yX8_same : MethodName := ⟨RX8, "same", "(I)I"⟩
def RL : String := "ProbeRacksLaw"
abbrev cL_law : ByteArray := code
def yL_law : MethodName := ⟨RL, "law", "([I)Z"⟩
abbrev vwCl : List vw_C := [(RX0, TX0, 3), (RX1, TX1, 3), (RX2, TX2, 2), (RX4, TX4, 6), (RX6, TX6, 3), (RX7, TX7, 8), (RX8, TX8, 20)]
/-! THE CLAIM OUT OF ONE WALK OF THE LAW'S BODY. Your part is whole_start (and what it stands on); all else here is the same for every law, but numbers. -/
def R_law : String := "ProbeRacksLaw"
def lw_P (b : Addr) (xs : List Int32) (args : Array Value) (s : State) : Prop := args = #[.ref b] ∧ s.IntsAt b xs ∧ xs.length ≤ 3072 ∧ (Jvm.Cond.and given_1 narrow_1).before args s = true
def lw_Q (_ : Array Value) (s : State) (o : Outcome) (t : State) : Prop := o = .returned (some (.int 1)) ∧ Framed s o t [] 600000 7302250
def lw_Z (below : List Frame) (a : Array Value) (s : State) : State → Prop := fun t => ∃ o, t.status = .running ∧ Ended t below o ∧ lw_Q a s o t
/-- the law's own end, with 1 on the stack, nothing written that was there before, its room as the claim has it -/
theorem lw_ret {p : Program} {l : Launch} {e : Env} {s : State} {m : MethodId} {below : List Frame} {meth : Method} {c : Code} {b : Nat} (hx : p.tables.exec = Jvm.exec) (hb : c.code = code) (hr : meth.sig.returnType = ret) (hlocks : meth.locks = false) {pc : Nat} {H : Heap} {ls : Array Slot} (hdg : decode code pc = .ok (.ireturn, 1)) : W p l e room_1 s m #[Value.ref b] below meth c H [] 600000 7302250 (lw_Z below #[Value.ref b] s) (F0 m pc ls [.int 1]) := by
  intro T hT X
  obtain ⟨fs, hret, hrun, hended, hW, hframe⟩ := X.leave (v := some (.int 1)) (hlocks := hlocks) (fun h => by rw [hr] at h; cases h)
  have hmeth' : T.vm.method? m = some meth := X.method'
  refine ⟨T.setFrames fs, ?_, .returned (some (.int 1)), hrun, hended, rfl, ⟨_, rfl⟩, hW, hframe⟩
  jvm_step X.here [X.here.top, hx, hb, hdg, hmeth', hr, ret, narrow_b1]
  (try refine ⟨rfl, ?_⟩); (try refine ⟨rfl, ?_⟩)
  first | (intro acts; rw [hret _ acts rfl rfl rfl]) | rw [hret _ _ rfl rfl rfl]
  exact Steps.refl _
/-- what holds at the law's entry: the machine, the code, the tables' words (any of lw_tbl by 'hts w (by decide +kernel)'), the script of L ints xs at the cell b, what the Statement gives of the start (any of its parts by flat_of_before) -/
def lw_At (p : Program) (s : State) (m : MethodId) (meth : Method) (c : Code) (b L : Nat) (xs : Nat → Int32) : Prop :=
  p.tables.exec = Jvm.exec ∧ c.code = code ∧ meth.sig.returnType = ret ∧ c.maxLocals = 4 ∧ s.vm.findClass R_law = some m.cls ∧ (∀ w ∈ lw_tbl, w.before #[Value.ref b] s = true) ∧ va_X b L xs s s.heap ∧ b < s.heap.size ∧ meth.locks = false ∧ (Jvm.Cond.and given_1 narrow_1).before #[Value.ref b] s = true
end
section
def zw : List Cond := lw_tbl.filter goodWord
theorem zw_in {w : Cond} (i : Nat) (h : lw_tbl[i]? = some w) (hg : goodWord w = true) : w ∈ zw := List.mem_filter.mpr ⟨List.mem_of_getElem? h, hg⟩
theorem zw_good {w : Cond} (h : w ∈ zw) : (w.onTables && w.keeps) = true ∨ ∃ ty, w = .arrayClass ty := good_of_word (List.mem_filter.mp h).2
/-! the light judgement: a method's frame over an abstract heap (contents by address, size); one context for all methods -/
abbrev zh_H : Type := (Nat → va_E) × Nat
abbrev zh_G : Type := va_G × (Nat → ClassId) × Nat × Heap × Nat
abbrev zg_c (G : zh_G) : Nat → ClassId := G.2.1
abbrev zg_B (G : zh_G) : Nat := G.2.2.1
abbrev zg_O (G : zh_G) : Heap := G.2.2.2.1
abbrev zg_a (G : zh_G) : Nat := G.2.2.2.2
def zg_tab : Nat → Int32 := fun k => match k with
  | 0 => 1 | 1 => 250 | 2 => 244 | 3 => 248 | 4 => 240 | 5 => 224 | 6 => 192 | 7 => 128 | 8 => 256 | 9 => 768 | _ => 1024
def zh_tys (G : zh_G) : List (ClassId × FieldType) := [(zg_c G 0, .int), (zg_c G 1, .long), (zg_c G 2, .boolean), (zg_c G 3, .object RX5), (zg_c G 4, .object RX4)]
def zh_nF : List (String × Nat × String × String × String) := [(RX7, 76, RX0, "kind", "I"), (RX7, 90, RX0, "amount", "J"), (RX7, 51, RX0, "thing", "LProbeRacks$Thing;"), (RX7, 197, RX4, "op", "I"), (RX7, 194, RX4, "a", "I"), (RX7, 200, RX4, "i", "I"), (RX7, 206, RX4, "b", "I"), (RX7, 203, RX4, "k", "I"), (RX7, 145, RX4, "outcome", "I"), (RX7, 165, RX1, "numbers", "[J"), (RX7, 169, RX6, "things", "[LProbeRacks$Thing;"), (RX0, 33, RX2, "number", "I"), (RX0, 29, RX2, "fine", "Z"), (RX7, 154, RX2, "fine", "Z")]
def zh_nM : List (String × Nat × MethodName) := [(RX7, 17, yX0_init), (RX7, 31, yX4_init), (RX7, 45, yX1_init), (RX3, 1, yX5_init), (RX7, 50, yX6_init), (RX7, 55, yX0_holdNumber), (RX0, 15, yX7_asKind), (RX7, 65, yX2_init), (RX2, 1, yX5_init), (RX7, 68, yX0_holdThing), (RX7, 134, yX4_become)]
def zh_cs : List (String × String) := [(RX2, RX2), (RX1, RX3), (RX6, RX3), (RX1, RX1), (RX6, RX6), (RX1, RX5), (RX2, RX5), (RX6, RX5)]
def zh_nc : List (String × String) := [(RX1, RX2), (RX6, RX2), (RX2, RX3), (RX6, RX1), (RX2, RX1), (RX1, RX6), (RX2, RX6)]
def zh_K (G : zh_G) (U : State) : Prop := va_K G.1 vwCl (zh_tys G) U ∧ (∀ q ∈ zh_nF, va_Nw (.fieldLinkNest q.1 q.2.1 q.2.2.1 q.2.2.2.1 q.2.2.2.2 "ProbeRacks") U) ∧ (∀ q ∈ zh_nM, va_Nw (.methodLinkNest q.1 q.2.1 q.2.2 "ProbeRacks") U) ∧ (∀ q ∈ zh_cs, va_Nw (.castable q.1 q.2) U) ∧ (∀ q ∈ zh_nc, va_Nc q.1 q.2 U) ∧ (va_AO RX5 U ∧ va_AO RX4 U) ∧ va_Z "ProbeRacks" "GOES_INTO" "[I" (.ref (zg_a G)) (fun q => zg_B G ≤ q) U (zg_O G) ∧ va_T .int (zg_a G) 11 (fun j => .int (zg_tab j)) (fun q => zg_B G ≤ q) U (zg_O G)
theorem zh_K.warm {G : zh_G} {s U : State} (hW : s.WarmedH U.vm) (h : zh_K G s) : zh_K G U :=
  ⟨va_K.moved hW.alike h.1, fun q hq => va_Nw.warmF hW (h.2.1 q hq), fun q hq => va_Nw.warmM hW (h.2.2.1 q hq), fun q hq => va_Nw.warmC hW (h.2.2.2.1 q hq), fun q hq => va_Nc.moved hW.alike (h.2.2.2.2.1 q hq), ⟨va_AO.moved hW.alike h.2.2.2.2.2.1.1, va_AO.moved hW.alike h.2.2.2.2.2.1.2⟩, va_Z.moved hW.alike h.2.2.2.2.2.2.1, va_T.moved hW.alike h.2.2.2.2.2.2.2⟩
def zh_W (G : zh_G) (h : zh_H) (H : Heap) : Prop := H.size = h.2 ∧ zg_B G ≤ h.2 ∧ (∀ q : Nat, q < zg_B G → H[q]? = (zg_O G)[q]?) ∧ ∀ a : Nat, zg_B G ≤ a → a < h.2 → va_at G.1 vwCl (a, h.1 a) H
theorem zh_W.put {G : zh_G} {h : zh_H} {H H1 : Heap} {a : Nat} {e : va_E} (hW : zh_W G h H) (ha : zg_B G ≤ a) (hat : va_at G.1 vwCl (a, e) H1) (z : H1.size = H.size) (oq : ∀ q : Nat, q ≠ a → H1[q]? = H[q]?) : zh_W G (va_up h.1 a e, h.2) H1 := by
  refine ⟨z.trans hW.1, hW.2.1, fun q hq => ?_, fun b hb1 hb2 => ?_⟩
  · rw [oq q (by omega)]; exact hW.2.2.1 q hq
  · by_cases hba : b = a
    · subst hba; simp only [va_up, if_true]; exact hat
    · simp only [va_up, if_neg hba]; exact (hW.2.2.2 b hb1 hb2).kept (oq b hba)
theorem zh_W.push {G : zh_G} {h : zh_H} {H H1 : Heap} {e : va_E} (hW : zh_W G h H) (hat : va_at G.1 vwCl (h.2, e) H1) (z : H1.size = H.size + 1) (oq : ∀ q : Nat, q < H.size → H1[q]? = H[q]?) : zh_W G (va_up h.1 h.2 e, h.2 + 1) H1 := by
  refine ⟨by rw [z, hW.1], Nat.le_trans hW.2.1 (Nat.le_succ _), fun q hq => ?_, fun b hb1 hb2 => ?_⟩
  · rw [oq q (by rw [hW.1]; exact Nat.lt_of_lt_of_le hq hW.2.1)]; exact hW.2.2.1 q hq
  · by_cases hba : b = h.2
    · subst hba; simp only [va_up, if_true]; exact hat
    · simp only [va_up, if_neg hba]
      have hb3 : b < h.2 + 1 := hb2
      have hlt : b < h.2 := by omega
      exact (hW.2.2.2 b hb1 hlt).kept (oq b (by rw [hW.1]; exact hlt))
def zv_rt (cc : ByteArray) (r : Option FieldType) (pc : Nat) (v : Option Value) : Prop :=
  (∃ x, v = some (.int x) ∧ decode cc pc = .ok (.ireturn, 1) ∧ ∃ ty, r = some ty ∧ narrow ty (.int x) = .int x) ∨ (∃ x, v = some (.long x) ∧ r = some .long ∧ decode cc pc = .ok (.lreturn, 1)) ∨ (v = none ∧ r = none ∧ decode cc pc = .ok (.return_, 1))
def zv_ctx (G : zh_G) (l : Launch) (y : MethodName) (cc : ByteArray) (n : Nat) (r : Option FieldType) (d : Nat) (Q : Option Value → zh_H → Prop) (p : Program) (e : Env) (R : Room) (s : State) (m : MethodId) (args : Array Value) (below : List Frame) (meth : Method) (c : Code) (Qf : State → Prop) : Prop :=
  (p.tables.exec = Jvm.exec ∧ c.code = cc ∧ c.maxLocals = n ∧ s.vm.findClass y.cls = some m.cls ∧ meth.name = y.name) ∧ (∀ w ∈ zw, w.before args s = true) ∧ zh_K G s ∧ (d ≤ R.frames ∧ 30 * d ≤ R.locals) ∧
  (∀ (v : Option Value) (h' : zh_H) (H' : Heap) (locs' : List Loc) (pc' : Nat) (ls' : Array Slot), Q v h' → zh_W G h' H' → (∀ q ∈ locs', zg_B G ≤ q.base) → zv_rt cc r pc' v → W p l e R s m args below meth c H' locs' R.cells R.slots Qf (F0 m pc' ls' v.toList))
def zv (G : zh_G) (l : Launch) (y : MethodName) (cc : ByteArray) (n : Nat) (r : Option FieldType) (d mc ms pc : Nat) (lv : List (Nat × Value)) (st : List Value) (h : zh_H) (Q : Option Value → zh_H → Prop) : Prop :=
  ∀ (p : Program) (e : Env) (R : Room) (s : State) (m : MethodId) (args : Array Value) (below : List Frame) (meth : Method) (c : Code) (Qf : State → Prop), zv_ctx G l y cc n r d Q p e R s m args below meth c Qf →
  ∀ (H : Heap) (locs : List Loc) (cells slots : Nat) (ls : Array Slot), zh_W G h H → (∀ q ∈ locs, zg_B G ≤ q.base) → cells + mc ≤ R.cells → slots + ms ≤ R.slots → lv_has ls n lv → W p l e R s m args below meth c H locs cells slots Qf (F0 m pc ls st)
def zc (G : zh_G) (l : Launch) (y : MethodName) (cc : ByteArray) (n : Nat) (r : Option FieldType) (d : Nat) (av : List Value) (h : zh_H) (mc ms : Nat) (Q : Option Value → zh_H → Prop) : Prop :=
  Met l y (.code y cc n r :: zw) { frames := d, cells := mc, slots := ms, locals := 30 * d } (va_Pc av (fun U => zh_K G U ∧ zh_W G h U.heap)) (fun _ _ oc t => ∃ (v : Option Value) (h' : zh_H), oc = .returned v ∧ Q v h' ∧ zh_W G h' t.heap) mc ms (fun q => zg_B G ≤ q)
def zl (lv : List (Nat × Value)) (i : Nat) : Option Value := match lv with
  | [] => none
  | q :: t => if q.1 = i then some q.2 else zl t i
theorem zl_mem {lv : List (Nat × Value)} {i : Nat} {v : Value} (h : zl lv i = some v) : (i, v) ∈ lv := by
  induction lv with
  | nil => simp [zl] at h
  | cons q t ih =>
    unfold zl at h
    split at h
    · next hq => cases h; subst hq; exact List.mem_cons_self
    · exact List.mem_cons_of_mem _ (ih h)
def zs1 (lv : List (Nat × Value)) (i : Nat) (v : Value) : List (Nat × Value) := (i, v) :: lv.filter (fun q => !(q.1 == i) && !(q.1 + 1 == i && q.2.category == 2))
def zs2 (lv : List (Nat × Value)) (i : Nat) (v : Value) : List (Nat × Value) := (i, v) :: lv.filter (fun q => !(q.1 == i) && (!(q.1 == i + 1) && !(q.1 + 1 == i && q.2.category == 2)))
section ZV
variable {G : zh_G} {l : Launch} {y : MethodName} {cc : ByteArray} {n : Nat} {r : Option FieldType} {d mc ms pc : Nat} {lv : List (Nat × Value)} {st : List Value} {h : zh_H} {Q : Option Value → zh_H → Prop}
theorem zc.of (hp : plainName y.cls = true) {av : List Value} (hsl : (lg_sl av).length ≤ n) (kk : zv G l y cc n r d mc ms 0 (lv_args 0 av) [] h Q) : zc G l y cc n r d av h mc ms Q := by
  refine Met.ofW (cc := cc) (maxL := n) (ret := r) hp rfl ?_
  intro p e s m args below meth c s₁ B hml hv
  obtain ⟨rfl, hK, hW⟩ := hv
  have hts := atoms_spec (ws := .code y cc n r :: zw) B.pre
  have hlocks := B.notSynchronized
  have hl := lv_entry av (n := n) hsl
  rw [lg_entry_eq]
  generalize (lg_sl av ++ List.replicate (n - (lg_sl av).length) Slot.unset).toArray = ls at hl ⊢
  refine kk p e _ s m _ below meth c _ ⟨⟨B.exec, B.bytes, hml, findClass_of_methodNamed B.named, (name_of_methodNamed B.named B.method).1⟩, fun w hw => hts w (List.mem_cons_of_mem _ hw), hK, ⟨Nat.le_refl _, Nat.le_refl _⟩, ?_⟩ s.heap [] 0 0 ls hW (fun q hq => by cases hq) (by simp [headSpec]) (by simp [headSpec]) hl
  intro v h' H' locs' pc' ls' hq hW' hL' hrt
  rcases hrt with ⟨x, rfl, hd, ty, hty, hn⟩ | ⟨x, rfl, hty, hd⟩ | ⟨rfl, hty, hd⟩
  · exact W.zret B.exec B.bytes (B.returns.trans hty) hn (fun t ht _ => ⟨_, h', rfl, hq, by rw [ht]; exact hW'⟩) hL' hd
  · exact W.lret B.exec B.bytes (B.returns.trans hty) (fun t ht _ => ⟨_, h', rfl, hq, by rw [ht]; exact hW'⟩) hL' hd
  · exact W.vret B.exec B.bytes (B.returns.trans hty) (fun t ht _ => ⟨_, h', rfl, hq, by rw [ht]; exact hW'⟩) hL' hd
theorem zc.weaken {Q2 : Option Value → zh_H → Prop} {av : List Value} (hq : ∀ v h', Q v h' → Q2 v h') (hM : zc G l y cc n r d av h mc ms Q) : zc G l y cc n r d av h mc ms Q2 := by
  intro p e ha hc hk s m args below hf hs hP hK
  obtain ⟨t, o, h1, h2, h3, ⟨v, h', h4, h5, h6⟩, h7⟩ := hM p e ha hc hk s m args below hf hs hP hK
  exact ⟨t, o, h1, h2, h3, ⟨v, h', h4, hq v h' h5, h6⟩, h7⟩
theorem zv_lv (lv' : List (Nat × Value)) (hsub : ∀ q ∈ lv', q ∈ lv) (kk : zv G l y cc n r d mc ms pc lv' st h Q) : zv G l y cc n r d mc ms pc lv st h Q := by
  intro p e R s m args below meth c Qf C H locs cells slots ls hW hL h1 h2 hl
  exact kk p e R s m args below meth c Qf C H locs cells slots ls hW hL h1 h2 ⟨hl.1, hl.2.1, fun q hq => hl.2.2 q (hsub q hq)⟩
theorem zv_ret {v : Option Value} (hq : Q v h) (hrt : zv_rt cc r pc v) : zv G l y cc n r d mc ms pc lv v.toList h Q := by
  intro p e R s m args below meth c Qf C H locs cells slots ls hW hL h1 h2 hl
  exact W.widen (by omega) (by omega) (C.2.2.2.2 v h H locs pc ls hq hW hL hrt)
theorem zv_ireturn {x : Int32} (hd : decode cc pc = .ok (.ireturn, 1)) (hr : r = some .int) (hq : Q (some (.int x)) h) : zv G l y cc n r d mc ms pc lv [.int x] h Q := zv_ret (v := some (.int x)) hq (Or.inl ⟨x, rfl, hd, _, hr, rfl⟩)
theorem zv_zreturn {x : Int32} (hd : decode cc pc = .ok (.ireturn, 1)) (hr : r = some .boolean) (hn : narrow .boolean (.int x) = .int x) (hq : Q (some (.int x)) h) : zv G l y cc n r d mc ms pc lv [.int x] h Q := zv_ret (v := some (.int x)) hq (Or.inl ⟨x, rfl, hd, _, hr, hn⟩)
theorem zv_lreturn {x : Int64} (hd : decode cc pc = .ok (.lreturn, 1)) (hr : r = some .long) (hq : Q (some (.long x)) h) : zv G l y cc n r d mc ms pc lv [.long x] h Q := zv_ret (v := some (.long x)) hq (Or.inr (Or.inl ⟨x, rfl, hr, hd⟩))
theorem zv_return (hd : decode cc pc = .ok (.return_, 1)) (hr : r = none) (hq : Q none h) : zv G l y cc n r d mc ms pc lv [] h Q := zv_ret (v := none) hq (Or.inr (Or.inr ⟨rfl, hr, hd⟩))
theorem zv_iconst {k : Int} (hd : decode cc pc = .ok (.iconst k, 1)) (kk : zv G l y cc n r d mc ms (pc + 1) lv (.int (Int32.ofInt k) :: st) h Q) : zv G l y cc n r d mc ms pc lv st h Q := by
  intro p e R s m args below meth c Qf C H locs cells slots ls hW hL h1 h2 hl
  exact lv_iconst C.1.1 C.1.2.1 hd rfl (kk p e R s m args below meth c Qf C H locs cells slots ls hW hL h1 h2 hl)
theorem zv_bipush {k : Int} (hd : decode cc pc = .ok (.bipush k, 2)) (kk : zv G l y cc n r d mc ms (pc + 2) lv (.int (Int8.ofInt k).toInt32 :: st) h Q) : zv G l y cc n r d mc ms pc lv st h Q := by
  intro p e R s m args below meth c Qf C H locs cells slots ls hW hL h1 h2 hl
  exact lv_bipush C.1.1 C.1.2.1 hd rfl (kk p e R s m args below meth c Qf C H locs cells slots ls hW hL h1 h2 hl)
theorem zv_sipush {k : Int} (hd : decode cc pc = .ok (.sipush k, 3)) (kk : zv G l y cc n r d mc ms (pc + 3) lv (.int (Int16.ofInt k).toInt32 :: st) h Q) : zv G l y cc n r d mc ms pc lv st h Q := by
  intro p e R s m args below meth c Qf C H locs cells slots ls hW hL h1 h2 hl
  exact lv_sipush C.1.1 C.1.2.1 hd rfl (kk p e R s m args below meth c Qf C H locs cells slots ls hW hL h1 h2 hl)
theorem zv_iconstv {k : Int} {v : Int32} (hd : decode cc pc = .ok (.iconst k, 1)) (hv : Int32.ofInt k = v) (kk : zv G l y cc n r d mc ms (pc + 1) lv (.int v :: st) h Q) : zv G l y cc n r d mc ms pc lv st h Q := by
  intro p e R s m args below meth c Qf C H locs cells slots ls hW hL h1 h2 hl
  exact lv_iconst C.1.1 C.1.2.1 hd hv (kk p e R s m args below meth c Qf C H locs cells slots ls hW hL h1 h2 hl)
theorem zv_bipushv {k : Int} {v : Int32} (hd : decode cc pc = .ok (.bipush k, 2)) (hv : (Int8.ofInt k).toInt32 = v) (kk : zv G l y cc n r d mc ms (pc + 2) lv (.int v :: st) h Q) : zv G l y cc n r d mc ms pc lv st h Q := by
  intro p e R s m args below meth c Qf C H locs cells slots ls hW hL h1 h2 hl
  exact lv_bipush C.1.1 C.1.2.1 hd hv (kk p e R s m args below meth c Qf C H locs cells slots ls hW hL h1 h2 hl)
theorem zv_sipushv {k : Int} {v : Int32} (hd : decode cc pc = .ok (.sipush k, 3)) (hv : (Int16.ofInt k).toInt32 = v) (kk : zv G l y cc n r d mc ms (pc + 3) lv (.int v :: st) h Q) : zv G l y cc n r d mc ms pc lv st h Q := by
  intro p e R s m args below meth c Qf C H locs cells slots ls hW hL h1 h2 hl
  exact lv_sipush C.1.1 C.1.2.1 hd hv (kk p e R s m args below meth c Qf C H locs cells slots ls hW hL h1 h2 hl)
theorem zv_lconstv {k : Fin 2} {v : Int64} (hd : decode cc pc = .ok (.lconst k, 1)) (hv : Int64.ofNat (k : Nat) = v) (kk : zv G l y cc n r d mc ms (pc + 1) lv (.long v :: st) h Q) : zv G l y cc n r d mc ms pc lv st h Q := by
  intro p e R s m args below meth c Qf C H locs cells slots ls hW hL h1 h2 hl
  exact lv_lconst C.1.1 C.1.2.1 hd hv (kk p e R s m args below meth c Qf C H locs cells slots ls hW hL h1 h2 hl)
theorem zv_ldc {k : Nat} {v : Int32} (hd : decode cc pc = .ok (.ldc k, 2)) (hw : Cond.constant y.cls k v ∈ zw) (kk : zv G l y cc n r d mc ms (pc + 2) lv (.int v :: st) h Q) : zv G l y cc n r d mc ms pc lv st h Q := by
  intro p e R s m args below meth c Qf C H locs cells slots ls hW hL h1 h2 hl
  exact lv_ldc C.1.1 C.1.2.1 C.1.2.2.2.1 (C.2.1 _ hw) hd (kk p e R s m args below meth c Qf C H locs cells slots ls hW hL h1 h2 hl)
theorem zv_ldc2 {k : Nat} {v : Int64} (hd : decode cc pc = .ok (.ldc2_w k, 3)) (hw : Cond.constantLong y.cls k v ∈ zw) (kk : zv G l y cc n r d mc ms (pc + 3) lv (.long v :: st) h Q) : zv G l y cc n r d mc ms pc lv st h Q := by
  intro p e R s m args below meth c Qf C H locs cells slots ls hW hL h1 h2 hl
  exact lv_ldc2 C.1.1 C.1.2.1 C.1.2.2.2.1 (C.2.1 _ hw) hd (kk p e R s m args below meth c Qf C H locs cells slots ls hW hL h1 h2 hl)
theorem zv_null (hd : decode cc pc = .ok (.aconst_null, 1)) (kk : zv G l y cc n r d mc ms (pc + 1) lv (.null :: st) h Q) : zv G l y cc n r d mc ms pc lv st h Q := by
  intro p e R s m args below meth c Qf C H locs cells slots ls hW hL h1 h2 hl
  exact lv_null C.1.1 C.1.2.1 hd (kk p e R s m args below meth c Qf C H locs cells slots ls hW hL h1 h2 hl)
theorem zv_iload_n {k : Fin 4} {x : Int32} (hd : decode cc pc = .ok (.iload_n k, 1)) (hk : zl lv k = some (.int x)) (kk : zv G l y cc n r d mc ms (pc + 1) lv (.int x :: st) h Q) : zv G l y cc n r d mc ms pc lv st h Q := by
  intro p e R s m args below meth c Qf C H locs cells slots ls hW hL h1 h2 hl
  exact lv_iload_n C.1.1 C.1.2.1 hd rfl (hl.2.2 _ (zl_mem hk)) (kk p e R s m args below meth c Qf C H locs cells slots ls hW hL h1 h2 hl)
theorem zv_iload {k : Nat} {x : Int32} (hd : decode cc pc = .ok (.iload k, 2)) (hk : zl lv k = some (.int x)) (kk : zv G l y cc n r d mc ms (pc + 2) lv (.int x :: st) h Q) : zv G l y cc n r d mc ms pc lv st h Q := by
  intro p e R s m args below meth c Qf C H locs cells slots ls hW hL h1 h2 hl
  exact lv_iload C.1.1 C.1.2.1 hd (hl.2.2 _ (zl_mem hk)) (kk p e R s m args below meth c Qf C H locs cells slots ls hW hL h1 h2 hl)
theorem zv_lload_n {k : Fin 4} {x : Int64} (hd : decode cc pc = .ok (.lload_n k, 1)) (hk : zl lv k = some (.long x)) (kk : zv G l y cc n r d mc ms (pc + 1) lv (.long x :: st) h Q) : zv G l y cc n r d mc ms pc lv st h Q := by
  intro p e R s m args below meth c Qf C H locs cells slots ls hW hL h1 h2 hl
  exact lv_lload_n C.1.1 C.1.2.1 hd rfl (hl.2.2 _ (zl_mem hk)) (kk p e R s m args below meth c Qf C H locs cells slots ls hW hL h1 h2 hl)
theorem zv_lload {k : Nat} {x : Int64} (hd : decode cc pc = .ok (.lload k, 2)) (hk : zl lv k = some (.long x)) (kk : zv G l y cc n r d mc ms (pc + 2) lv (.long x :: st) h Q) : zv G l y cc n r d mc ms pc lv st h Q := by
  intro p e R s m args below meth c Qf C H locs cells slots ls hW hL h1 h2 hl
  exact lv_lload C.1.1 C.1.2.1 hd (hl.2.2 _ (zl_mem hk)) (kk p e R s m args below meth c Qf C H locs cells slots ls hW hL h1 h2 hl)
theorem zv_aload_n {k : Fin 4} {x : Nat} (hd : decode cc pc = .ok (.aload_n k, 1)) (hk : zl lv k = some (.ref x)) (kk : zv G l y cc n r d mc ms (pc + 1) lv (.ref x :: st) h Q) : zv G l y cc n r d mc ms pc lv st h Q := by
  intro p e R s m args below meth c Qf C H locs cells slots ls hW hL h1 h2 hl
  exact lv_aload_n C.1.1 C.1.2.1 hd rfl (hl.2.2 _ (zl_mem hk)) (kk p e R s m args below meth c Qf C H locs cells slots ls hW hL h1 h2 hl)
theorem zv_aload {k : Nat} {x : Nat} (hd : decode cc pc = .ok (.aload k, 2)) (hk : zl lv k = some (.ref x)) (kk : zv G l y cc n r d mc ms (pc + 2) lv (.ref x :: st) h Q) : zv G l y cc n r d mc ms pc lv st h Q := by
  intro p e R s m args below meth c Qf C H locs cells slots ls hW hL h1 h2 hl
  exact lv_aload C.1.1 C.1.2.1 hd (hl.2.2 _ (zl_mem hk)) (kk p e R s m args below meth c Qf C H locs cells slots ls hW hL h1 h2 hl)
theorem zv_aload_nN {k : Fin 4} (hd : decode cc pc = .ok (.aload_n k, 1)) (hk : zl lv k = some .null) (kk : zv G l y cc n r d mc ms (pc + 1) lv (.null :: st) h Q) : zv G l y cc n r d mc ms pc lv st h Q := by
  intro p e R s m args below meth c Qf C H locs cells slots ls hW hL h1 h2 hl
  exact lv_aload_nN C.1.1 C.1.2.1 hd rfl (hl.2.2 _ (zl_mem hk)) (kk p e R s m args below meth c Qf C H locs cells slots ls hW hL h1 h2 hl)
theorem zv_aloadN {k : Nat} (hd : decode cc pc = .ok (.aload k, 2)) (hk : zl lv k = some .null) (kk : zv G l y cc n r d mc ms (pc + 2) lv (.null :: st) h Q) : zv G l y cc n r d mc ms pc lv st h Q := by
  intro p e R s m args below meth c Qf C H locs cells slots ls hW hL h1 h2 hl
  exact lv_aloadN C.1.1 C.1.2.1 hd (hl.2.2 _ (zl_mem hk)) (kk p e R s m args below meth c Qf C H locs cells slots ls hW hL h1 h2 hl)
theorem zv_istore_n {k : Fin 4} {x : Int32} (hd : decode cc pc = .ok (.istore_n k, 1)) (hn : (k : Nat) < n) (kk : zv G l y cc n r d mc ms (pc + 1) (zs1 lv k (.int x)) st h Q) : zv G l y cc n r d mc ms pc lv (.int x :: st) h Q := by
  intro p e R s m args below meth c Qf C H locs cells slots ls hW hL h1 h2 hl
  exact lv_istore_n C.1.1 C.1.2.1 hd rfl hl hn rfl (fun ls hl => kk p e R s m args below meth c Qf C H locs cells slots ls hW hL h1 h2 hl)
theorem zv_istore {k : Nat} {x : Int32} (hd : decode cc pc = .ok (.istore k, 2)) (hn : k < n) (kk : zv G l y cc n r d mc ms (pc + 2) (zs1 lv k (.int x)) st h Q) : zv G l y cc n r d mc ms pc lv (.int x :: st) h Q := by
  intro p e R s m args below meth c Qf C H locs cells slots ls hW hL h1 h2 hl
  exact lv_istore C.1.1 C.1.2.1 hd hl hn rfl (fun ls hl => kk p e R s m args below meth c Qf C H locs cells slots ls hW hL h1 h2 hl)
theorem zv_astore_n {k : Fin 4} {x : Nat} (hd : decode cc pc = .ok (.astore_n k, 1)) (hn : (k : Nat) < n) (kk : zv G l y cc n r d mc ms (pc + 1) (zs1 lv k (.ref x)) st h Q) : zv G l y cc n r d mc ms pc lv (.ref x :: st) h Q := by
  intro p e R s m args below meth c Qf C H locs cells slots ls hW hL h1 h2 hl
  exact lv_astore_n C.1.1 C.1.2.1 hd rfl hl hn rfl (fun ls hl => kk p e R s m args below meth c Qf C H locs cells slots ls hW hL h1 h2 hl)
theorem zv_astore {k : Nat} {x : Nat} (hd : decode cc pc = .ok (.astore k, 2)) (hn : k < n) (kk : zv G l y cc n r d mc ms (pc + 2) (zs1 lv k (.ref x)) st h Q) : zv G l y cc n r d mc ms pc lv (.ref x :: st) h Q := by
  intro p e R s m args below meth c Qf C H locs cells slots ls hW hL h1 h2 hl
  exact lv_astore C.1.1 C.1.2.1 hd hl hn rfl (fun ls hl => kk p e R s m args below meth c Qf C H locs cells slots ls hW hL h1 h2 hl)
theorem zv_lstore_n {k : Fin 4} {x : Int64} (hd : decode cc pc = .ok (.lstore_n k, 1)) (hn : (k : Nat) + 1 < n) (kk : zv G l y cc n r d mc ms (pc + 1) (zs2 lv k (.long x)) st h Q) : zv G l y cc n r d mc ms pc lv (.long x :: st) h Q := by
  intro p e R s m args below meth c Qf C H locs cells slots ls hW hL h1 h2 hl
  exact lv_lstore_n C.1.1 C.1.2.1 hd rfl hl hn rfl (fun ls hl => kk p e R s m args below meth c Qf C H locs cells slots ls hW hL h1 h2 hl)
theorem zv_lstore {k : Nat} {x : Int64} (hd : decode cc pc = .ok (.lstore k, 2)) (hn : k + 1 < n) (kk : zv G l y cc n r d mc ms (pc + 2) (zs2 lv k (.long x)) st h Q) : zv G l y cc n r d mc ms pc lv (.long x :: st) h Q := by
  intro p e R s m args below meth c Qf C H locs cells slots ls hW hL h1 h2 hl
  exact lv_lstore C.1.1 C.1.2.1 hd hl hn rfl (fun ls hl => kk p e R s m args below meth c Qf C H locs cells slots ls hW hL h1 h2 hl)
theorem zv_iinc {k : Nat} {z : Int} {x : Int32} (hd : decode cc pc = .ok (.iinc k z, 3)) (hk : zl lv k = some (.int x)) (hn : k < n) (kk : zv G l y cc n r d mc ms (pc + 3) (zs1 lv k (.int (x + Int32.ofInt z))) st h Q) : zv G l y cc n r d mc ms pc lv st h Q := by
  intro p e R s m args below meth c Qf C H locs cells slots ls hW hL h1 h2 hl
  obtain ⟨j, hj⟩ := List.getElem?_of_mem (zl_mem hk)
  exact lv_iinc C.1.1 C.1.2.1 hd hl hj rfl hn rfl (fun ls hl => kk p e R s m args below meth c Qf C H locs cells slots ls hW hL h1 h2 hl)
theorem zv_iadd {x y0 : Int32} (hd : decode cc pc = .ok (.iadd, 1)) (kk : zv G l y cc n r d mc ms (pc + 1) lv (.int (x + y0) :: st) h Q) : zv G l y cc n r d mc ms pc lv (.int y0 :: .int x :: st) h Q := by
  intro p e R s m args below meth c Qf C H locs cells slots ls hW hL h1 h2 hl
  exact lv_iadd C.1.1 C.1.2.1 hd (kk p e R s m args below meth c Qf C H locs cells slots ls hW hL h1 h2 hl)
theorem zv_isub {x y0 : Int32} (hd : decode cc pc = .ok (.isub, 1)) (kk : zv G l y cc n r d mc ms (pc + 1) lv (.int (x - y0) :: st) h Q) : zv G l y cc n r d mc ms pc lv (.int y0 :: .int x :: st) h Q := by
  intro p e R s m args below meth c Qf C H locs cells slots ls hW hL h1 h2 hl
  exact lv_isub C.1.1 C.1.2.1 hd (kk p e R s m args below meth c Qf C H locs cells slots ls hW hL h1 h2 hl)
theorem zv_imul {x y0 : Int32} (hd : decode cc pc = .ok (.imul, 1)) (kk : zv G l y cc n r d mc ms (pc + 1) lv (.int (x * y0) :: st) h Q) : zv G l y cc n r d mc ms pc lv (.int y0 :: .int x :: st) h Q := by
  intro p e R s m args below meth c Qf C H locs cells slots ls hW hL h1 h2 hl
  exact lv_imul C.1.1 C.1.2.1 hd (kk p e R s m args below meth c Qf C H locs cells slots ls hW hL h1 h2 hl)
theorem zv_iand {x y0 : Int32} (hd : decode cc pc = .ok (.iand, 1)) (kk : zv G l y cc n r d mc ms (pc + 1) lv (.int (x &&& y0) :: st) h Q) : zv G l y cc n r d mc ms pc lv (.int y0 :: .int x :: st) h Q := by
  intro p e R s m args below meth c Qf C H locs cells slots ls hW hL h1 h2 hl
  exact lv_iand C.1.1 C.1.2.1 hd (kk p e R s m args below meth c Qf C H locs cells slots ls hW hL h1 h2 hl)
theorem zv_ior {x y0 : Int32} (hd : decode cc pc = .ok (.ior, 1)) (kk : zv G l y cc n r d mc ms (pc + 1) lv (.int (x ||| y0) :: st) h Q) : zv G l y cc n r d mc ms pc lv (.int y0 :: .int x :: st) h Q := by
  intro p e R s m args below meth c Qf C H locs cells slots ls hW hL h1 h2 hl
  exact lv_ior C.1.1 C.1.2.1 hd (kk p e R s m args below meth c Qf C H locs cells slots ls hW hL h1 h2 hl)
theorem zv_ishl {x y0 : Int32} (hd : decode cc pc = .ok (.ishl, 1)) (kk : zv G l y cc n r d mc ms (pc + 1) lv (.int (x <<< (y0 &&& 31)) :: st) h Q) : zv G l y cc n r d mc ms pc lv (.int y0 :: .int x :: st) h Q := by
  intro p e R s m args below meth c Qf C H locs cells slots ls hW hL h1 h2 hl
  exact lv_ishl C.1.1 C.1.2.1 hd (kk p e R s m args below meth c Qf C H locs cells slots ls hW hL h1 h2 hl)
theorem zv_ishr {x y0 : Int32} (hd : decode cc pc = .ok (.ishr, 1)) (kk : zv G l y cc n r d mc ms (pc + 1) lv (.int (x >>> (y0 &&& 31)) :: st) h Q) : zv G l y cc n r d mc ms pc lv (.int y0 :: .int x :: st) h Q := by
  intro p e R s m args below meth c Qf C H locs cells slots ls hW hL h1 h2 hl
  exact lv_ishr C.1.1 C.1.2.1 hd (kk p e R s m args below meth c Qf C H locs cells slots ls hW hL h1 h2 hl)
theorem zv_ladd {x y0 : Int64} (hd : decode cc pc = .ok (.ladd, 1)) (kk : zv G l y cc n r d mc ms (pc + 1) lv (.long (x + y0) :: st) h Q) : zv G l y cc n r d mc ms pc lv (.long y0 :: .long x :: st) h Q := by
  intro p e R s m args below meth c Qf C H locs cells slots ls hW hL h1 h2 hl
  exact lv_ladd C.1.1 C.1.2.1 hd (kk p e R s m args below meth c Qf C H locs cells slots ls hW hL h1 h2 hl)
theorem zv_lsub {x y0 : Int64} (hd : decode cc pc = .ok (.lsub, 1)) (kk : zv G l y cc n r d mc ms (pc + 1) lv (.long (x - y0) :: st) h Q) : zv G l y cc n r d mc ms pc lv (.long y0 :: .long x :: st) h Q := by
  intro p e R s m args below meth c Qf C H locs cells slots ls hW hL h1 h2 hl
  exact lv_lsub C.1.1 C.1.2.1 hd (kk p e R s m args below meth c Qf C H locs cells slots ls hW hL h1 h2 hl)
theorem zv_land {x y0 : Int64} (hd : decode cc pc = .ok (.land, 1)) (kk : zv G l y cc n r d mc ms (pc + 1) lv (.long (x &&& y0) :: st) h Q) : zv G l y cc n r d mc ms pc lv (.long y0 :: .long x :: st) h Q := by
  intro p e R s m args below meth c Qf C H locs cells slots ls hW hL h1 h2 hl
  exact lv_land C.1.1 C.1.2.1 hd (kk p e R s m args below meth c Qf C H locs cells slots ls hW hL h1 h2 hl)
theorem zv_lor {x y0 : Int64} (hd : decode cc pc = .ok (.lor, 1)) (kk : zv G l y cc n r d mc ms (pc + 1) lv (.long (x ||| y0) :: st) h Q) : zv G l y cc n r d mc ms pc lv (.long y0 :: .long x :: st) h Q := by
  intro p e R s m args below meth c Qf C H locs cells slots ls hW hL h1 h2 hl
  exact lv_lor C.1.1 C.1.2.1 hd (kk p e R s m args below meth c Qf C H locs cells slots ls hW hL h1 h2 hl)
theorem zv_lshl {x : Int64} {y0 : Int32} (hd : decode cc pc = .ok (.lshl, 1)) (kk : zv G l y cc n r d mc ms (pc + 1) lv (.long (x <<< (y0.toInt64 &&& 63)) :: st) h Q) : zv G l y cc n r d mc ms pc lv (.int y0 :: .long x :: st) h Q := by
  intro p e R s m args below meth c Qf C H locs cells slots ls hW hL h1 h2 hl
  exact lv_lshl C.1.1 C.1.2.1 hd rfl (kk p e R s m args below meth c Qf C H locs cells slots ls hW hL h1 h2 hl)
theorem zv_lcmp {x y0 : Int64} (hd : decode cc pc = .ok (.lcmp, 1)) (kk : zv G l y cc n r d mc ms (pc + 1) lv (.int (lg_cmp x y0) :: st) h Q) : zv G l y cc n r d mc ms pc lv (.long y0 :: .long x :: st) h Q := by
  intro p e R s m args below meth c Qf C H locs cells slots ls hW hL h1 h2 hl
  exact W.lcmp C.1.1 C.1.2.1 hd (kk p e R s m args below meth c Qf C H locs cells slots ls hW hL h1 h2 hl)
theorem zv_i2l {x : Int32} (hd : decode cc pc = .ok (.i2l, 1)) (kk : zv G l y cc n r d mc ms (pc + 1) lv (.long (x.toInt64) :: st) h Q) : zv G l y cc n r d mc ms pc lv (.int x :: st) h Q := by
  intro p e R s m args below meth c Qf C H locs cells slots ls hW hL h1 h2 hl
  exact lv_i2l C.1.1 C.1.2.1 hd rfl (kk p e R s m args below meth c Qf C H locs cells slots ls hW hL h1 h2 hl)
theorem zv_l2i {x : Int64} (hd : decode cc pc = .ok (.l2i, 1)) (kk : zv G l y cc n r d mc ms (pc + 1) lv (.int (x.toInt32) :: st) h Q) : zv G l y cc n r d mc ms pc lv (.long x :: st) h Q := by
  intro p e R s m args below meth c Qf C H locs cells slots ls hW hL h1 h2 hl
  exact lv_l2i C.1.1 C.1.2.1 hd rfl (kk p e R s m args below meth c Qf C H locs cells slots ls hW hL h1 h2 hl)
theorem zv_i2b {x : Int32} (hd : decode cc pc = .ok (.i2b, 1)) (kk : zv G l y cc n r d mc ms (pc + 1) lv (.int (x.toInt8.toInt32) :: st) h Q) : zv G l y cc n r d mc ms pc lv (.int x :: st) h Q := by
  intro p e R s m args below meth c Qf C H locs cells slots ls hW hL h1 h2 hl
  exact lv_i2b C.1.1 C.1.2.1 hd rfl (kk p e R s m args below meth c Qf C H locs cells slots ls hW hL h1 h2 hl)
theorem zv_i2s {x : Int32} (hd : decode cc pc = .ok (.i2s, 1)) (kk : zv G l y cc n r d mc ms (pc + 1) lv (.int (x.toInt16.toInt32) :: st) h Q) : zv G l y cc n r d mc ms pc lv (.int x :: st) h Q := by
  intro p e R s m args below meth c Qf C H locs cells slots ls hW hL h1 h2 hl
  exact lv_i2s C.1.1 C.1.2.1 hd rfl (kk p e R s m args below meth c Qf C H locs cells slots ls hW hL h1 h2 hl)
theorem zv_i2c {x : Int32} (hd : decode cc pc = .ok (.i2c, 1)) (kk : zv G l y cc n r d mc ms (pc + 1) lv (.int ((x.toUInt32 % 65536).toInt32) :: st) h Q) : zv G l y cc n r d mc ms pc lv (.int x :: st) h Q := by
  intro p e R s m args below meth c Qf C H locs cells slots ls hW hL h1 h2 hl
  exact lv_i2c C.1.1 C.1.2.1 hd rfl (kk p e R s m args below meth c Qf C H locs cells slots ls hW hL h1 h2 hl)
theorem zv_dup {v : Value} (hd : decode cc pc = .ok (.dup, 1)) (hv : v.category = 1) (kk : zv G l y cc n r d mc ms (pc + 1) lv (v :: v :: st) h Q) : zv G l y cc n r d mc ms pc lv (v :: st) h Q := by
  intro p e R s m args below meth c Qf C H locs cells slots ls hW hL h1 h2 hl
  exact lv_dup C.1.1 C.1.2.1 hd hv (kk p e R s m args below meth c Qf C H locs cells slots ls hW hL h1 h2 hl)
theorem zv_goto {off : Int} {tgt : Nat} (hd : decode cc pc = .ok (.goto off, 3)) (ht : (pc : Int) + off = (tgt : Int)) (kk : zv G l y cc n r d mc ms tgt lv st h Q) : zv G l y cc n r d mc ms pc lv st h Q := by
  intro p e R s m args below meth c Qf C H locs cells slots ls hW hL h1 h2 hl
  exact lv_goto C.1.1 C.1.2.1 hd ht (kk p e R s m args below meth c Qf C H locs cells slots ls hW hL h1 h2 hl)
theorem zv_ifnonnull {off : Int} {tgt x : Nat} (hd : decode cc pc = .ok (.ifnonnull off, 3)) (ht : (pc : Int) + off = (tgt : Int)) (kk : zv G l y cc n r d mc ms tgt lv st h Q) : zv G l y cc n r d mc ms pc lv (.ref x :: st) h Q := by
  intro p e R s m args below meth c Qf C H locs cells slots ls hW hL h1 h2 hl
  exact lv_ifnonnull C.1.1 C.1.2.1 hd ht (kk p e R s m args below meth c Qf C H locs cells slots ls hW hL h1 h2 hl)
theorem zv_ifnonnullN {off : Int} (hd : decode cc pc = .ok (.ifnonnull off, 3)) (kk : zv G l y cc n r d mc ms (pc + 3) lv st h Q) : zv G l y cc n r d mc ms pc lv (.null :: st) h Q := by
  intro p e R s m args below meth c Qf C H locs cells slots ls hW hL h1 h2 hl
  exact lv_ifnonnullN C.1.1 C.1.2.1 hd (kk p e R s m args below meth c Qf C H locs cells slots ls hW hL h1 h2 hl)
theorem zv_tableIn {dflt lo hi off : Int} {offs : Array Int} {len tgt : Nat} {x : Int32} (hd : decode cc pc = .ok (.tableswitch dflt lo hi offs, len)) (h1 : ¬ x.toInt < lo) (h2 : ¬ hi < x.toInt) (ho : offs[(x.toInt - lo).toNat]? = some off) (ht : (pc : Int) + off = (tgt : Int)) (kk : zv G l y cc n r d mc ms tgt lv st h Q) : zv G l y cc n r d mc ms pc lv (.int x :: st) h Q := by
  intro p e R s m args below meth c Qf C H locs cells slots ls hW hL h1 h2 hl
  exact lv_tableIn C.1.1 C.1.2.1 hd (by assumption) (by assumption) ho ht (kk p e R s m args below meth c Qf C H locs cells slots ls hW hL h1 h2 hl)
theorem zv_tableOut {dflt lo hi : Int} {offs : Array Int} {len tgt : Nat} {x : Int32} (hd : decode cc pc = .ok (.tableswitch dflt lo hi offs, len)) (h0 : x.toInt < lo ∨ hi < x.toInt) (ht : (pc : Int) + dflt = (tgt : Int)) (kk : zv G l y cc n r d mc ms tgt lv st h Q) : zv G l y cc n r d mc ms pc lv (.int x :: st) h Q := by
  intro p e R s m args below meth c Qf C H locs cells slots ls hW hL h1 h2 hl
  exact lv_tableOut C.1.1 C.1.2.1 hd h0 ht (kk p e R s m args below meth c Qf C H locs cells slots ls hW hL h1 h2 hl)
theorem zv_if_eq {off : Int} {tgt : Nat} {x : Int32} (hd : decode cc pc = .ok (.ifCond .eq off, 3)) (ht : (pc : Int) + off = (tgt : Int)) (kt : x = 0 → zv G l y cc n r d mc ms tgt lv st h Q) (kf : ¬ (x = 0) → zv G l y cc n r d mc ms (pc + 3) lv st h Q) : zv G l y cc n r d mc ms pc lv (.int x :: st) h Q := by
  intro p e R s m args below meth c Qf C H locs cells slots ls hW hL h1 h2 hl
  by_cases hc : x = 0
  · exact lv_if_eq C.1.1 C.1.2.1 hd ht (fun _ => kt hc p e R s m args below meth c Qf C H locs cells slots ls hW hL h1 h2 hl) (fun h => by exfalso; first | exact h hc | exact hc h | (apply h; simpa using hc) | (simp at h hc; first | exact h hc | exact hc h | (exact absurd hc (by simpa using h))))
  · exact lv_if_eq C.1.1 C.1.2.1 hd ht (fun h => by exfalso; first | exact hc h | exact h hc | (apply hc; simpa using h) | (simp at h hc; first | exact h hc | exact hc h | (exact absurd hc (by simpa using h)))) (fun _ => kf hc p e R s m args below meth c Qf C H locs cells slots ls hW hL h1 h2 hl)
theorem zv_icmp_eq {off : Int} {tgt : Nat} {x y0 : Int32} (hd : decode cc pc = .ok (.if_icmp .eq off, 3)) (ht : (pc : Int) + off = (tgt : Int)) (kt : x = y0 → zv G l y cc n r d mc ms tgt lv st h Q) (kf : ¬ (x = y0) → zv G l y cc n r d mc ms (pc + 3) lv st h Q) : zv G l y cc n r d mc ms pc lv (.int y0 :: .int x :: st) h Q := by
  intro p e R s m args below meth c Qf C H locs cells slots ls hW hL h1 h2 hl
  by_cases hc : x = y0
  · exact lv_icmp_eq C.1.1 C.1.2.1 hd ht (fun _ => kt hc p e R s m args below meth c Qf C H locs cells slots ls hW hL h1 h2 hl) (fun h => by exfalso; first | exact h hc | exact hc h | (apply h; simpa using hc) | (simp at h hc; first | exact h hc | exact hc h | (exact absurd hc (by simpa using h))))
  · exact lv_icmp_eq C.1.1 C.1.2.1 hd ht (fun h => by exfalso; first | exact hc h | exact h hc | (apply hc; simpa using h) | (simp at h hc; first | exact h hc | exact hc h | (exact absurd hc (by simpa using h)))) (fun _ => kf hc p e R s m args below meth c Qf C H locs cells slots ls hW hL h1 h2 hl)
theorem zv_if_ne {off : Int} {tgt : Nat} {x : Int32} (hd : decode cc pc = .ok (.ifCond .ne off, 3)) (ht : (pc : Int) + off = (tgt : Int)) (kt : ¬ x = 0 → zv G l y cc n r d mc ms tgt lv st h Q) (kf : x = 0 → zv G l y cc n r d mc ms (pc + 3) lv st h Q) : zv G l y cc n r d mc ms pc lv (.int x :: st) h Q := by
  intro p e R s m args below meth c Qf C H locs cells slots ls hW hL h1 h2 hl
  by_cases hc : ¬ x = 0
  · exact lv_if_ne C.1.1 C.1.2.1 hd ht (fun _ => kt hc p e R s m args below meth c Qf C H locs cells slots ls hW hL h1 h2 hl) (fun h => by exfalso; first | exact h hc | exact hc h | (apply h; simpa using hc) | (simp at h hc; first | exact h hc | exact hc h | (exact absurd hc (by simpa using h))))
  · exact lv_if_ne C.1.1 C.1.2.1 hd ht (fun h => by exfalso; first | exact hc h | exact h hc | (apply hc; simpa using h) | (simp at h hc; first | exact h hc | exact hc h | (exact absurd hc (by simpa using h)))) (fun _ => kf (Classical.not_not.mp hc) p e R s m args below meth c Qf C H locs cells slots ls hW hL h1 h2 hl)
theorem zv_icmp_ne {off : Int} {tgt : Nat} {x y0 : Int32} (hd : decode cc pc = .ok (.if_icmp .ne off, 3)) (ht : (pc : Int) + off = (tgt : Int)) (kt : ¬ x = y0 → zv G l y cc n r d mc ms tgt lv st h Q) (kf : x = y0 → zv G l y cc n r d mc ms (pc + 3) lv st h Q) : zv G l y cc n r d mc ms pc lv (.int y0 :: .int x :: st) h Q := by
  intro p e R s m args below meth c Qf C H locs cells slots ls hW hL h1 h2 hl
  by_cases hc : ¬ x = y0
  · exact lv_icmp_ne C.1.1 C.1.2.1 hd ht (fun _ => kt hc p e R s m args below meth c Qf C H locs cells slots ls hW hL h1 h2 hl) (fun h => by exfalso; first | exact h hc | exact hc h | (apply h; simpa using hc) | (simp at h hc; first | exact h hc | exact hc h | (exact absurd hc (by simpa using h))))
  · exact lv_icmp_ne C.1.1 C.1.2.1 hd ht (fun h => by exfalso; first | exact hc h | exact h hc | (apply hc; simpa using h) | (simp at h hc; first | exact h hc | exact hc h | (exact absurd hc (by simpa using h)))) (fun _ => kf (Classical.not_not.mp hc) p e R s m args below meth c Qf C H locs cells slots ls hW hL h1 h2 hl)
theorem zv_if_lt {off : Int} {tgt : Nat} {x : Int32} (hd : decode cc pc = .ok (.ifCond .lt off, 3)) (ht : (pc : Int) + off = (tgt : Int)) (kt : x < 0 → zv G l y cc n r d mc ms tgt lv st h Q) (kf : ¬ (x < 0) → zv G l y cc n r d mc ms (pc + 3) lv st h Q) : zv G l y cc n r d mc ms pc lv (.int x :: st) h Q := by
  intro p e R s m args below meth c Qf C H locs cells slots ls hW hL h1 h2 hl
  by_cases hc : x < 0
  · exact lv_if_lt C.1.1 C.1.2.1 hd ht (fun _ => kt hc p e R s m args below meth c Qf C H locs cells slots ls hW hL h1 h2 hl) (fun h => by exfalso; first | exact h hc | exact hc h | (apply h; simpa using hc) | (simp at h hc; first | exact h hc | exact hc h | (exact absurd hc (by simpa using h))))
  · exact lv_if_lt C.1.1 C.1.2.1 hd ht (fun h => by exfalso; first | exact hc h | exact h hc | (apply hc; simpa using h) | (simp at h hc; first | exact h hc | exact hc h | (exact absurd hc (by simpa using h)))) (fun _ => kf hc p e R s m args below meth c Qf C H locs cells slots ls hW hL h1 h2 hl)
theorem zv_icmp_lt {off : Int} {tgt : Nat} {x y0 : Int32} (hd : decode cc pc = .ok (.if_icmp .lt off, 3)) (ht : (pc : Int) + off = (tgt : Int)) (kt : x < y0 → zv G l y cc n r d mc ms tgt lv st h Q) (kf : ¬ (x < y0) → zv G l y cc n r d mc ms (pc + 3) lv st h Q) : zv G l y cc n r d mc ms pc lv (.int y0 :: .int x :: st) h Q := by
  intro p e R s m args below meth c Qf C H locs cells slots ls hW hL h1 h2 hl
  by_cases hc : x < y0
  · exact lv_icmp_lt C.1.1 C.1.2.1 hd ht (fun _ => kt hc p e R s m args below meth c Qf C H locs cells slots ls hW hL h1 h2 hl) (fun h => by exfalso; first | exact h hc | exact hc h | (apply h; simpa using hc) | (simp at h hc; first | exact h hc | exact hc h | (exact absurd hc (by simpa using h))))
  · exact lv_icmp_lt C.1.1 C.1.2.1 hd ht (fun h => by exfalso; first | exact hc h | exact h hc | (apply hc; simpa using h) | (simp at h hc; first | exact h hc | exact hc h | (exact absurd hc (by simpa using h)))) (fun _ => kf hc p e R s m args below meth c Qf C H locs cells slots ls hW hL h1 h2 hl)
theorem zv_if_ge {off : Int} {tgt : Nat} {x : Int32} (hd : decode cc pc = .ok (.ifCond .ge off, 3)) (ht : (pc : Int) + off = (tgt : Int)) (kt : 0 ≤ x → zv G l y cc n r d mc ms tgt lv st h Q) (kf : ¬ (0 ≤ x) → zv G l y cc n r d mc ms (pc + 3) lv st h Q) : zv G l y cc n r d mc ms pc lv (.int x :: st) h Q := by
  intro p e R s m args below meth c Qf C H locs cells slots ls hW hL h1 h2 hl
  by_cases hc : 0 ≤ x
  · exact lv_if_ge C.1.1 C.1.2.1 hd ht (fun _ => kt hc p e R s m args below meth c Qf C H locs cells slots ls hW hL h1 h2 hl) (fun h => by exfalso; first | exact h hc | exact hc h | (apply h; simpa using hc) | (simp at h hc; first | exact h hc | exact hc h | (exact absurd hc (by simpa using h))))
  · exact lv_if_ge C.1.1 C.1.2.1 hd ht (fun h => by exfalso; first | exact hc h | exact h hc | (apply hc; simpa using h) | (simp at h hc; first | exact h hc | exact hc h | (exact absurd hc (by simpa using h)))) (fun _ => kf hc p e R s m args below meth c Qf C H locs cells slots ls hW hL h1 h2 hl)
theorem zv_icmp_ge {off : Int} {tgt : Nat} {x y0 : Int32} (hd : decode cc pc = .ok (.if_icmp .ge off, 3)) (ht : (pc : Int) + off = (tgt : Int)) (kt : y0 ≤ x → zv G l y cc n r d mc ms tgt lv st h Q) (kf : ¬ (y0 ≤ x) → zv G l y cc n r d mc ms (pc + 3) lv st h Q) : zv G l y cc n r d mc ms pc lv (.int y0 :: .int x :: st) h Q := by
  intro p e R s m args below meth c Qf C H locs cells slots ls hW hL h1 h2 hl
  by_cases hc : y0 ≤ x
  · exact lv_icmp_ge C.1.1 C.1.2.1 hd ht (fun _ => kt hc p e R s m args below meth c Qf C H locs cells slots ls hW hL h1 h2 hl) (fun h => by exfalso; first | exact h hc | exact hc h | (apply h; simpa using hc) | (simp at h hc; first | exact h hc | exact hc h | (exact absurd hc (by simpa using h))))
  · exact lv_icmp_ge C.1.1 C.1.2.1 hd ht (fun h => by exfalso; first | exact hc h | exact h hc | (apply hc; simpa using h) | (simp at h hc; first | exact h hc | exact hc h | (exact absurd hc (by simpa using h)))) (fun _ => kf hc p e R s m args below meth c Qf C H locs cells slots ls hW hL h1 h2 hl)
theorem zv_if_gt {off : Int} {tgt : Nat} {x : Int32} (hd : decode cc pc = .ok (.ifCond .gt off, 3)) (ht : (pc : Int) + off = (tgt : Int)) (kt : 0 < x → zv G l y cc n r d mc ms tgt lv st h Q) (kf : ¬ (0 < x) → zv G l y cc n r d mc ms (pc + 3) lv st h Q) : zv G l y cc n r d mc ms pc lv (.int x :: st) h Q := by
  intro p e R s m args below meth c Qf C H locs cells slots ls hW hL h1 h2 hl
  by_cases hc : 0 < x
  · exact lv_if_gt C.1.1 C.1.2.1 hd ht (fun _ => kt hc p e R s m args below meth c Qf C H locs cells slots ls hW hL h1 h2 hl) (fun h => by exfalso; first | exact h hc | exact hc h | (apply h; simpa using hc) | (simp at h hc; first | exact h hc | exact hc h | (exact absurd hc (by simpa using h))))
  · exact lv_if_gt C.1.1 C.1.2.1 hd ht (fun h => by exfalso; first | exact hc h | exact h hc | (apply hc; simpa using h) | (simp at h hc; first | exact h hc | exact hc h | (exact absurd hc (by simpa using h)))) (fun _ => kf hc p e R s m args below meth c Qf C H locs cells slots ls hW hL h1 h2 hl)
theorem zv_icmp_gt {off : Int} {tgt : Nat} {x y0 : Int32} (hd : decode cc pc = .ok (.if_icmp .gt off, 3)) (ht : (pc : Int) + off = (tgt : Int)) (kt : y0 < x → zv G l y cc n r d mc ms tgt lv st h Q) (kf : ¬ (y0 < x) → zv G l y cc n r d mc ms (pc + 3) lv st h Q) : zv G l y cc n r d mc ms pc lv (.int y0 :: .int x :: st) h Q := by
  intro p e R s m args below meth c Qf C H locs cells slots ls hW hL h1 h2 hl
  by_cases hc : y0 < x
  · exact lv_icmp_gt C.1.1 C.1.2.1 hd ht (fun _ => kt hc p e R s m args below meth c Qf C H locs cells slots ls hW hL h1 h2 hl) (fun h => by exfalso; first | exact h hc | exact hc h | (apply h; simpa using hc) | (simp at h hc; first | exact h hc | exact hc h | (exact absurd hc (by simpa using h))))
  · exact lv_icmp_gt C.1.1 C.1.2.1 hd ht (fun h => by exfalso; first | exact hc h | exact h hc | (apply hc; simpa using h) | (simp at h hc; first | exact h hc | exact hc h | (exact absurd hc (by simpa using h)))) (fun _ => kf hc p e R s m args below meth c Qf C H locs cells slots ls hW hL h1 h2 hl)
theorem zv_if_le {off : Int} {tgt : Nat} {x : Int32} (hd : decode cc pc = .ok (.ifCond .le off, 3)) (ht : (pc : Int) + off = (tgt : Int)) (kt : x ≤ 0 → zv G l y cc n r d mc ms tgt lv st h Q) (kf : ¬ (x ≤ 0) → zv G l y cc n r d mc ms (pc + 3) lv st h Q) : zv G l y cc n r d mc ms pc lv (.int x :: st) h Q := by
  intro p e R s m args below meth c Qf C H locs cells slots ls hW hL h1 h2 hl
  by_cases hc : x ≤ 0
  · exact lv_if_le C.1.1 C.1.2.1 hd ht (fun _ => kt hc p e R s m args below meth c Qf C H locs cells slots ls hW hL h1 h2 hl) (fun h => by exfalso; first | exact h hc | exact hc h | (apply h; simpa using hc) | (simp at h hc; first | exact h hc | exact hc h | (exact absurd hc (by simpa using h))))
  · exact lv_if_le C.1.1 C.1.2.1 hd ht (fun h => by exfalso; first | exact hc h | exact h hc | (apply hc; simpa using h) | (simp at h hc; first | exact h hc | exact hc h | (exact absurd hc (by simpa using h)))) (fun _ => kf hc p e R s m args below meth c Qf C H locs cells slots ls hW hL h1 h2 hl)
theorem zv_icmp_le {off : Int} {tgt : Nat} {x y0 : Int32} (hd : decode cc pc = .ok (.if_icmp .le off, 3)) (ht : (pc : Int) + off = (tgt : Int)) (kt : x ≤ y0 → zv G l y cc n r d mc ms tgt lv st h Q) (kf : ¬ (x ≤ y0) → zv G l y cc n r d mc ms (pc + 3) lv st h Q) : zv G l y cc n r d mc ms pc lv (.int y0 :: .int x :: st) h Q := by
  intro p e R s m args below meth c Qf C H locs cells slots ls hW hL h1 h2 hl
  by_cases hc : x ≤ y0
  · exact lv_icmp_le C.1.1 C.1.2.1 hd ht (fun _ => kt hc p e R s m args below meth c Qf C H locs cells slots ls hW hL h1 h2 hl) (fun h => by exfalso; first | exact h hc | exact hc h | (apply h; simpa using hc) | (simp at h hc; first | exact h hc | exact hc h | (exact absurd hc (by simpa using h))))
  · exact lv_icmp_le C.1.1 C.1.2.1 hd ht (fun h => by exfalso; first | exact hc h | exact h hc | (apply hc; simpa using h) | (simp at h hc; first | exact h hc | exact hc h | (exact absurd hc (by simpa using h)))) (fun _ => kf hc p e R s m args below meth c Qf C H locs cells slots ls hW hL h1 h2 hl)
theorem zv_acmp_ne {off : Int} {tgt : Nat} {rx ry : Option Nat} (hd : decode cc pc = .ok (.if_acmp .ne off, 3)) (ht : (pc : Int) + off = (tgt : Int)) (kt : ¬ rx = ry → zv G l y cc n r d mc ms tgt lv st h Q) (kf : rx = ry → zv G l y cc n r d mc ms (pc + 3) lv st h Q) : zv G l y cc n r d mc ms pc lv (va_rf ry :: va_rf rx :: st) h Q := by
  intro p e R s m args below meth c Qf C H locs cells slots ls hW hL h1 h2 hl
  exact lv_acmp_ne C.1.1 C.1.2.1 hd ht (fun hc => kt hc p e R s m args below meth c Qf C H locs cells slots ls hW hL h1 h2 hl) (fun hc => kf hc p e R s m args below meth c Qf C H locs cells slots ls hW hL h1 h2 hl)
end ZV
end
section
/-- the field that 'own' names idx is field k of class ci -/
def zf (own : String) (idx ci k : Nat) : Prop := ∃ (Cn : String) (T : u_T) (N : Nat) (ref : String), vwCl[ci]? = some (Cn, T, N) ∧ k < N ∧ (∀ w ∈ u_ws Cn T N, w ∈ zw) ∧ (Cond.fieldLink own idx ref (T k).2.1 (T k).2.2.1 ∈ zw ∨ (own, idx, ref, (T k).2.1, (T k).2.2.1) ∈ zh_nF) ∧ (ref = (T k).1 ∨ Cond.sameField ref (T k).1 (T k).2.1 (T k).2.2.1 ∈ zw)
/-- and it may be written with values of type ty -/
def zfw (own : String) (idx ci k : Nat) (ty : FieldType) (fin : Bool) : Prop := ∃ (Cn : String) (T : u_T) (N : Nat) (ref : String) (ty0 : Nat → FieldType), vwCl[ci]? = some (Cn, T, N) ∧ k < N ∧ (∀ w ∈ u_ws Cn T N, w ∈ zw) ∧ (Cond.fieldLink own idx ref (T k).2.1 (T k).2.2.1 ∈ zw ∨ (fin = false ∧ (own, idx, ref, (T k).2.1, (T k).2.2.1) ∈ zh_nF)) ∧ (ref = (T k).1 ∨ Cond.sameField ref (T k).1 (T k).2.1 (T k).2.2.1 ∈ zw) ∧ (∀ k, k < N → parseFieldDescriptor (T k).2.2.1 = some (ty0 k)) ∧ (∀ a, a < N → ∀ b, b < N → a ≠ b → (T a).2.1 ≠ (T b).2.1) ∧ ty0 k = ty ∧ (T k).2.2.2 = fin ∧ (fin = true → (T k).1 = own)
section ZH
variable {G : zh_G} {l : Launch} {y : MethodName} {cc : ByteArray} {n : Nat} {r : Option FieldType} {d mc ms pc : Nat} {lv : List (Nat × Value)} {st : List Value} {h : zh_H} {Q : Option Value → zh_H → Prop}
variable {p : Program} {e : Env} {R : Room} {s : State} {m : MethodId} {args : Array Value} {below : List Frame} {meth : Method} {c : Code} {H : Heap} {locs : List Loc} {cells slots : Nat} {Qf : State → Prop} {ls : Array Slot} {rest : List Value} {a : Nat}
theorem zh_same {ref : String} {T : u_T} {k : Nat} (hts : ∀ w ∈ zw, w.before args s = true) (hs : ref = (T k).1 ∨ Cond.sameField ref (T k).1 (T k).2.1 (T k).2.2.1 ∈ zw) : ∀ x, s.fieldFound? (T k).1 (T k).2.1 (T k).2.2.1 = some x → s.fieldFound? ref (T k).2.1 (T k).2.2.1 = some x := by
  intro x hx
  rcases hs with rfl | hs
  · exact hx
  · exact u_same (hts _ hs) x hx
theorem zv_get {idx ci k : Nat} {fs : List Value} {v : Value} (hf : zf y.cls idx ci k) (he : h.1 a = .inr (ci, fs)) (hB : zg_B G ≤ a) (hB2 : a < h.2) (hv : fs[k]? = some v) (hd : decode cc pc = .ok (.getfield idx, 3)) (kk : zv G l y cc n r d mc ms (pc + 3) lv (v :: st) h Q) : zv G l y cc n r d mc ms pc lv (.ref a :: st) h Q := by
  intro p e R s m args below meth c Qf C H locs cells slots ls hW hL h1 h2 hl
  obtain ⟨Cn, T, N, ref, hc, hk, hin, hlink, hsame⟩ := hf
  have hP : va_P G.1 vwCl [(a, .inr (ci, fs))] H := by
    intro j q hj
    have hat := hW.2.2.2 a hB hB2
    rw [he] at hat
    match j, hj with
    | 0, hj => cases hj; exact hat
    | j + 1, hj => simp at hj
  rcases hlink with hlink | hlink
  · exact va_get C.1.1 C.1.2.1 C.2.1 hin C.1.2.2.2.1 C.2.2.1.1 hP 0 rfl hc k hk (C.2.1 _ hlink) (zh_same C.2.1 hsame) hv hd (kk p e R s m args below meth c Qf C H locs cells slots ls hW hL h1 h2 hl)
  · exact va_getN C.1.1 C.1.2.1 C.2.1 hin C.1.2.2.2.1 C.2.2.1.1 hP 0 rfl hc k hk (va_Nw.use rfl (C.2.2.1.2.1 _ hlink)) (zh_same C.2.1 hsame) hv hd (kk p e R s m args below meth c Qf C H locs cells slots ls hW hL h1 h2 hl)
theorem zv_put {idx ci k : Nat} {fs : List Value} {v : Value} {ty : FieldType} (hf : zfw y.cls idx ci k ty false) (he : h.1 a = .inr (ci, fs)) (hB : zg_B G ≤ a) (hB2 : a < h.2) (hn : narrow ty v = v) (hfit : fits ty v = true) (hlen : k < fs.length) (hd : decode cc pc = .ok (.putfield idx, 3)) (kk : zv G l y cc n r d mc ms (pc + 3) lv st (va_up h.1 a (.inr (ci, fs.set k v)), h.2) Q) : zv G l y cc n r d mc ms pc lv (v :: .ref a :: st) h Q := by
  intro p e R s m args below meth c Qf C H locs cells slots ls hW hL h1 h2 hl
  obtain ⟨Cn, T, N, ref, ty0, hc, hk, hin, hlink, hsame, hty, hnm, hty2, hfin, -⟩ := hf
  subst hty2
  have hK := C.2.2.1.1
  have hts := C.2.1
  have hap := va_apart (own := y.cls) hts hin ty0 hty hnm hK hc
  have hat := hW.2.2.2 a hB hB2
  rw [he] at hat
  obtain ⟨r0, hr0, cell, q1, q2, q3, q4⟩ := hat
  have hr : r0 = (Cn, T, N) := Option.some.inj (hr0.symm.trans hc)
  subst hr
  obtain ⟨hS, hfc, kC, hkC, hkind⟩ := hK.1 ci _ hc
  obtain ⟨cf, kf, fi, f, hi, hsl⟩ := hS k hk
  have hlay := hts _ (hin _ (u_in_lay hk))
  unfold u_lay at hlay
  rw [if_neg (by rw [hfin]; decide)] at hlay
  have hst := (u_facts hfc hkC (u_lays hts hin hk) hi).1
  have h6 := u_store hfc hkC hkind hlay hi (hty k hk) hn hfit
  have fin : ∀ H' : Heap, H'[a]? = some (cell.setSlot f.slot v) → H'.size = H.size → (∀ q, q ≠ a → H'[q]? = H[q]?) → W p l e R s m args below meth c H' (locs ++ [⟨a, f.slot⟩]) cells slots Qf (F0 m (pc + 3) ls st) := by
    intro H' e1 e2 e3
    rw [hsl] at e1
    refine kk p e R s m args below meth c Qf C H' _ cells slots ls (hW.put hB ⟨_, hc, t_OB.to (V := updV (vp_V fs) k v) ⟨_, e1, q2, q3, t_set q4 hap hk v⟩ (fun j _ => vp_updV_set hlen v j)⟩ e2 e3) (fun q hq => ?_) h1 h2 hl
    rcases List.mem_append.mp hq with h | h
    · exact hL q h
    · rw [List.mem_singleton.mp h]; exact hB
  rcases hlink with hlink | hlink
  · exact W.putK C.1.1 C.1.2.1 (f := f) ⟨C.1.2.2.2.1, hts _ hlink, ⟨_, _, _, zh_same hts hsame _ hi⟩, hst⟩ (by rw [q2]; exact h6) q1 q3 (by rw [hsl]; exact k2_hasslot (q4 k hk)) rfl rfl hd fin
  · exact va_WputK C.1.1 C.1.2.1 (f := f) C.1.2.2.2.1 (va_Nw.use rfl (C.2.2.1.2.1 _ hlink.2)) (zh_same hts hsame _ hi) hst (by rw [q2]; exact h6) q1 q3 (by rw [hsl]; exact k2_hasslot (q4 k hk)) rfl rfl hd fin
theorem zv_putF {idx ci k : Nat} {fs : List Value} {v : Value} {ty : FieldType} (hf : zfw y.cls idx ci k ty true) (hin2 : y.name = "<init>") (he : h.1 a = .inr (ci, fs)) (hB : zg_B G ≤ a) (hB2 : a < h.2) (hn : narrow ty v = v) (hfit : fits ty v = true) (hlen : k < fs.length) (hd : decode cc pc = .ok (.putfield idx, 3)) (kk : zv G l y cc n r d mc ms (pc + 3) lv st (va_up h.1 a (.inr (ci, fs.set k v)), h.2) Q) : zv G l y cc n r d mc ms pc lv (v :: .ref a :: st) h Q := by
  intro p e R s m args below meth c Qf C H locs cells slots ls hW hL h1 h2 hl
  obtain ⟨Cn, T, N, ref, ty0, hc, hk, hin, hlink, hsame, hty, hnm, hty2, hfin, hdecl⟩ := hf
  subst hty2
  have hdecl := hdecl rfl
  have hK := C.2.2.1.1
  have hts := C.2.1
  have hap := va_apart (own := y.cls) hts hin ty0 hty hnm hK hc
  have hat := hW.2.2.2 a hB hB2
  rw [he] at hat
  obtain ⟨r0, hr0, cell, q1, q2, q3, q4⟩ := hat
  have hr : r0 = (Cn, T, N) := Option.some.inj (hr0.symm.trans hc)
  subst hr
  obtain ⟨hS, hfc, kC, hkC, hkind⟩ := hK.1 ci _ hc
  obtain ⟨cf, kf, fi, f, hi, hsl⟩ := hS k hk
  have hlay := hts _ (hin _ (u_in_lay hk))
  unfold u_lay at hlay
  rw [if_pos hfin] at hlay
  have hst := (u_facts hfc hkC (u_lays hts hin hk) hi).1
  have hcf : m.cls = cf := by
    obtain ⟨_, _, c', _, _, _, -, -, hf', -, -, -, hown2, -⟩ := Cond.laysFinal_spec hlay
    have e1 : c' = cf := by have := hi.symm.trans hf'; simp at this; exact this.1.symm
    rw [hdecl] at hown2
    rw [← e1]; exact Option.some.inj (C.1.2.2.2.1.symm.trans hown2)
  have h6 := u_fits hfc hkC hkind (Or.inr hlay) hi (hty k hk) hn hfit
  rcases hlink with hlink | hlink
  · refine W.putFinK C.1.1 C.1.2.1 C.1.2.2.2.1 (hts _ hlink) (zh_same hts hsame _ hi) hst hcf (C.1.2.2.2.2.trans hin2) (by rw [q2]; exact h6) q1 q3 (by rw [hsl]; exact k2_hasslot (q4 k hk)) rfl rfl hd fun H' e1 e2 e3 => ?_
    rw [hsl] at e1
    refine kk p e R s m args below meth c Qf C H' _ cells slots ls (hW.put hB ⟨_, hc, t_OB.to (V := updV (vp_V fs) k v) ⟨_, e1, q2, q3, t_set q4 hap hk v⟩ (fun j _ => vp_updV_set hlen v j)⟩ e2 e3) (fun q hq => ?_) h1 h2 hl
    rcases List.mem_append.mp hq with h | h
    · exact hL q h
    · rw [List.mem_singleton.mp h]; exact hB
  · exact absurd hlink.1 (by decide)
theorem zv_iald {N : Nat} {f : Nat → Int32} {i : Int32} (he : h.1 a = .inl (zg_c G 0, N, .inl f)) (hB : zg_B G ≤ a) (hB2 : a < h.2) (hin : vp_in i N) (hd : decode cc pc = .ok (.iaload, 1)) (kk : zv G l y cc n r d mc ms (pc + 1) lv (.int (f i.toNatClampNeg) :: st) h Q) : zv G l y cc n r d mc ms pc lv (.int i :: .ref a :: st) h Q := by
  intro p e R s m args below meth c Qf C H locs cells slots ls hW hL h1 h2 hl
  have hat := hW.2.2.2 a hB hB2
  rw [he] at hat
  have hlt : i.toNatClampNeg < N := Nat.not_le.mp fun q => hin (Or.inr q)
  exact W.iald (v := .int (f i.toNatClampNeg)) C.1.1 C.1.2.1 hat ((C.2.2.1.1.2 0 _ rfl).1 N (fun j => .int (f j))) (fun q => by cases q) (by show ¬ (i < 0 ∨ (arrV _ _ _).slots.size ≤ _); rw [arrV_size]; exact hin) (by show (arrV _ _ _).slots[_]? = _; rw [arrV_read _ _ hlt]) rfl rfl hd (kk p e R s m args below meth c Qf C H locs cells slots ls hW hL h1 h2 hl)
theorem zv_zald {N : Nat} {f : Nat → Int32} {i : Int32} (he : h.1 a = .inl (zg_c G 2, N, .inl f)) (hB : zg_B G ≤ a) (hB2 : a < h.2) (hin : vp_in i N) (hd : decode cc pc = .ok (.baload, 1)) (kk : zv G l y cc n r d mc ms (pc + 1) lv (.int (f i.toNatClampNeg) :: st) h Q) : zv G l y cc n r d mc ms pc lv (.int i :: .ref a :: st) h Q := by
  intro p e R s m args below meth c Qf C H locs cells slots ls hW hL h1 h2 hl
  have hat := hW.2.2.2 a hB hB2
  rw [he] at hat
  have hlt : i.toNatClampNeg < N := Nat.not_le.mp fun q => hin (Or.inr q)
  exact W.zald (v := .int (f i.toNatClampNeg)) C.1.1 C.1.2.1 hat ((C.2.2.1.1.2 2 _ rfl).1 N (fun j => .int (f j))) (fun q => by cases q) (by show ¬ (i < 0 ∨ (arrV _ _ _).slots.size ≤ _); rw [arrV_size]; exact hin) (by show (arrV _ _ _).slots[_]? = _; rw [arrV_read _ _ hlt]) rfl rfl hd (kk p e R s m args below meth c Qf C H locs cells slots ls hW hL h1 h2 hl)
theorem zv_lald {N : Nat} {f : Nat → Int64} {i : Int32} (he : h.1 a = .inl (zg_c G 1, N, .inr (.inl f))) (hB : zg_B G ≤ a) (hB2 : a < h.2) (hin : vp_in i N) (hd : decode cc pc = .ok (.laload, 1)) (kk : zv G l y cc n r d mc ms (pc + 1) lv (.long (f i.toNatClampNeg) :: st) h Q) : zv G l y cc n r d mc ms pc lv (.int i :: .ref a :: st) h Q := by
  intro p e R s m args below meth c Qf C H locs cells slots ls hW hL h1 h2 hl
  have hat := hW.2.2.2 a hB hB2
  rw [he] at hat
  have hlt : i.toNatClampNeg < N := Nat.not_le.mp fun q => hin (Or.inr q)
  exact W.lald (v := .long (f i.toNatClampNeg)) C.1.1 C.1.2.1 hat ((C.2.2.1.1.2 1 _ rfl).1 N (fun j => .long (f j))) (fun q => by cases q) (by show ¬ (i < 0 ∨ (arrV _ _ _).slots.size ≤ _); rw [arrV_size]; exact hin) (by show (arrV _ _ _).slots[_]? = _; rw [arrV_read _ _ hlt]) rfl rfl hd (kk p e R s m args below meth c Qf C H locs cells slots ls hW hL h1 h2 hl)
theorem zv_aald3 {N : Nat} {f : Nat → Option Nat} {i : Int32} (he : h.1 a = .inl (zg_c G 3, N, .inr (.inr (.inr (.inr f))))) (hB : zg_B G ≤ a) (hB2 : a < h.2) (hin : vp_in i N) (hd : decode cc pc = .ok (.aaload, 1)) (kk : zv G l y cc n r d mc ms (pc + 1) lv (va_rf (f i.toNatClampNeg) :: st) h Q) : zv G l y cc n r d mc ms pc lv (.int i :: .ref a :: st) h Q := by
  intro p e R s m args below meth c Qf C H locs cells slots ls hW hL h1 h2 hl
  have hat := hW.2.2.2 a hB hB2
  rw [he] at hat
  have hlt : i.toNatClampNeg < N := Nat.not_le.mp fun q => hin (Or.inr q)
  exact W.aald (v := va_rf (f i.toNatClampNeg)) (ty := .object RX5) C.1.1 C.1.2.1 hat ((C.2.2.1.1.2 3 _ rfl).1 N (fun j => va_rf (f j))) rfl (fun q => by cases q) (by show ¬ (i < 0 ∨ (arrV _ _ _).slots.size ≤ _); rw [arrV_size]; exact hin) (by show (arrV _ _ _).slots[_]? = _; rw [arrV_read _ _ hlt]) rfl rfl hd (kk p e R s m args below meth c Qf C H locs cells slots ls hW hL h1 h2 hl)
theorem zv_aald4 {N : Nat} {f : Nat → Option Nat} {i : Int32} (he : h.1 a = .inl (zg_c G 4, N, .inr (.inr (.inr (.inr f))))) (hB : zg_B G ≤ a) (hB2 : a < h.2) (hin : vp_in i N) (hd : decode cc pc = .ok (.aaload, 1)) (kk : zv G l y cc n r d mc ms (pc + 1) lv (va_rf (f i.toNatClampNeg) :: st) h Q) : zv G l y cc n r d mc ms pc lv (.int i :: .ref a :: st) h Q := by
  intro p e R s m args below meth c Qf C H locs cells slots ls hW hL h1 h2 hl
  have hat := hW.2.2.2 a hB hB2
  rw [he] at hat
  have hlt : i.toNatClampNeg < N := Nat.not_le.mp fun q => hin (Or.inr q)
  exact W.aald (v := va_rf (f i.toNatClampNeg)) (ty := .object RX4) C.1.1 C.1.2.1 hat ((C.2.2.1.1.2 4 _ rfl).1 N (fun j => va_rf (f j))) rfl (fun q => by cases q) (by show ¬ (i < 0 ∨ (arrV _ _ _).slots.size ≤ _); rw [arrV_size]; exact hin) (by show (arrV _ _ _).slots[_]? = _; rw [arrV_read _ _ hlt]) rfl rfl hd (kk p e R s m args below meth c Qf C H locs cells slots ls hW hL h1 h2 hl)
theorem zv_iast {N : Nat} {f : Nat → Int32} {i : Int32} {x : Int32} (he : h.1 a = .inl (zg_c G 0, N, .inl f)) (hB : zg_B G ≤ a) (hB2 : a < h.2) (hin : vp_in i N) (hd : decode cc pc = .ok (.iastore, 1)) (kk : zv G l y cc n r d mc ms (pc + 1) lv st (va_up h.1 a (.inl (zg_c G 0, N, .inl (upd f i.toNatClampNeg x))), h.2) Q) : zv G l y cc n r d mc ms pc lv (.int x :: .int i :: .ref a :: st) h Q := by
  intro p e R s m args below meth c Qf C H locs cells slots ls hW hL h1 h2 hl
  have hat := hW.2.2.2 a hB hB2
  rw [he] at hat
  have hlt : i.toNatClampNeg < N := Nat.not_le.mp fun q => hin (Or.inr q)
  refine W.iast C.1.1 C.1.2.1 hat ((C.2.2.1.1.2 0 _ rfl).1 N (fun j => .int (f j))) (fun q => by cases q) (by show ¬ (i < 0 ∨ (arrV _ _ _).slots.size ≤ _); rw [arrV_size]; exact hin) rfl rfl hd fun H1 e1 z oq => ?_
  refine kk p e R s m args below meth c Qf C H1 _ cells slots ls (hW.put hB ?_ z oq) (fun q hq => by
    rcases List.mem_append.mp hq with h | h
    · exact hL q h
    · rw [List.mem_singleton.mp h]; exact hB) h1 h2 hl
  show H1[a]? = some (vp_cell _ _)
  rw [e1]
  rw [vp_cell_i, vp_cell_i, arrV_store]
  congr 2
  funext q
  by_cases hq : q = i.toNatClampNeg
  · subst hq
    simp [updV, upd]
  · simp [updV, upd, hq]
theorem zv_last {N : Nat} {f : Nat → Int64} {i : Int32} {x : Int64} (he : h.1 a = .inl (zg_c G 1, N, .inr (.inl f))) (hB : zg_B G ≤ a) (hB2 : a < h.2) (hin : vp_in i N) (hd : decode cc pc = .ok (.lastore, 1)) (kk : zv G l y cc n r d mc ms (pc + 1) lv st (va_up h.1 a (.inl (zg_c G 1, N, .inr (.inl (vp_updL f i.toNatClampNeg x)))), h.2) Q) : zv G l y cc n r d mc ms pc lv (.long x :: .int i :: .ref a :: st) h Q := by
  intro p e R s m args below meth c Qf C H locs cells slots ls hW hL h1 h2 hl
  have hat := hW.2.2.2 a hB hB2
  rw [he] at hat
  have hlt : i.toNatClampNeg < N := Nat.not_le.mp fun q => hin (Or.inr q)
  refine W.last C.1.1 C.1.2.1 hat ((C.2.2.1.1.2 1 _ rfl).1 N (fun j => .long (f j))) (fun q => by cases q) (by show ¬ (i < 0 ∨ (arrV _ _ _).slots.size ≤ _); rw [arrV_size]; exact hin) rfl rfl hd fun H1 e1 z oq => ?_
  refine kk p e R s m args below meth c Qf C H1 _ cells slots ls (hW.put hB ?_ z oq) (fun q hq => by
    rcases List.mem_append.mp hq with h | h
    · exact hL q h
    · rw [List.mem_singleton.mp h]; exact hB) h1 h2 hl
  show H1[a]? = some (vp_cell _ _)
  rw [e1]
  rw [vp_cell_l, vp_cell_l, arrV_store]
  congr 2
  funext q
  by_cases hq : q = i.toNatClampNeg
  · subst hq
    simp [updV, vp_updL]
  · simp [updV, vp_updL, hq]
theorem zv_zast {N : Nat} {f : Nat → Int32} {i : Int32} {x : Int32} (he : h.1 a = .inl (zg_c G 2, N, .inl f)) (hB : zg_B G ≤ a) (hB2 : a < h.2) (hin : vp_in i N) (hnar : narrow .boolean (.int x) = .int x) (hd : decode cc pc = .ok (.bastore, 1)) (kk : zv G l y cc n r d mc ms (pc + 1) lv st (va_up h.1 a (.inl (zg_c G 2, N, .inl (upd f i.toNatClampNeg x))), h.2) Q) : zv G l y cc n r d mc ms pc lv (.int x :: .int i :: .ref a :: st) h Q := by
  intro p e R s m args below meth c Qf C H locs cells slots ls hW hL h1 h2 hl
  have hat := hW.2.2.2 a hB hB2
  rw [he] at hat
  have hlt : i.toNatClampNeg < N := Nat.not_le.mp fun q => hin (Or.inr q)
  refine W.zast C.1.1 C.1.2.1 hat ((C.2.2.1.1.2 2 _ rfl).1 N (fun j => .int (f j))) (fun q => by cases q) (by show ¬ (i < 0 ∨ (arrV _ _ _).slots.size ≤ _); rw [arrV_size]; exact hin) rfl rfl hd fun H1 e1 z oq => ?_
  refine kk p e R s m args below meth c Qf C H1 _ cells slots ls (hW.put hB ?_ z oq) (fun q hq => by
    rcases List.mem_append.mp hq with h | h
    · exact hL q h
    · rw [List.mem_singleton.mp h]; exact hB) h1 h2 hl
  show H1[a]? = some (vp_cell _ _)
  rw [e1, hnar]
  rw [vp_cell_i, vp_cell_i, arrV_store]
  congr 2
  funext q
  by_cases hq : q = i.toNatClampNeg
  · subst hq
    simp [updV, upd]
  · simp [updV, upd, hq]
theorem zv_aast3 {N ci b : Nat} {f : Nat → Option Nat} {i : Int32} {q0 : vw_C} {vs : List Value} (he : h.1 a = .inl (zg_c G 3, N, .inr (.inr (.inr (.inr f))))) (hB : zg_B G ≤ a) (hB2 : a < h.2) (hin : vp_in i N) (hv : h.1 b = .inr (ci, vs)) (hv1 : zg_B G ≤ b) (hv2 : b < h.2) (hc : vwCl[ci]? = some q0) (hcs : (q0.1, RX5) ∈ zh_cs ∨ q0.1 = RX5) (hd : decode cc pc = .ok (.aastore, 1)) (kk : zv G l y cc n r d mc ms (pc + 1) lv st (va_up h.1 a (.inl (zg_c G 3, N, .inr (.inr (.inr (.inr (va_up f i.toNatClampNeg (some b))))))), h.2) Q) : zv G l y cc n r d mc ms pc lv (.ref b :: .int i :: .ref a :: st) h Q := by
  intro p e R s m args below meth c Qf C H locs cells slots ls hW hL h1 h2 hl
  have hat := hW.2.2.2 a hB hB2
  rw [he] at hat
  have hlt : i.toNatClampNeg < N := Nat.not_le.mp fun q => hin (Or.inr q)
  have hatv := hW.2.2.2 b hv1 hv2
  rw [hv] at hatv
  obtain ⟨r', hr', cellV, g1, g2, g3, -⟩ := hatv
  have hcls := (C.2.2.1.1.1 ci q0 hc).2
  obtain ⟨kA, comp, k1, k2, k3, -⟩ := (C.2.2.1.1.2 3 _ rfl).2
  obtain ⟨kC, hkC, -⟩ := hcls.2
  have h0 : ¬ i < 0 := fun q => hin (Or.inl q)
  have hasg : s.vm.assignable (G.1.1 ci) comp = true := by
    rcases hcs with hcs | hcs
    · obtain ⟨c0, t0, f1, f2, f3⟩ := Cond.castable_spec (va_Nw.use (A := args) rfl (C.2.2.1.2.2.2.1 _ hcs))
      cases hcls.1.symm.trans f1
      cases k3.symm.trans f2
      exact f3
    · have e0 := hcls.1
      rw [hcs] at e0
      cases k3.symm.trans e0
      exact va_assign hcls
  obtain ⟨kcomp, hkcomp, -⟩ := Vm.findClass_spec k3
  refine W.aast C.1.1 C.1.2.1 hat (fun q h => by cases h) (fun h => by cases h) k1 k2 rfl hkcomp ⟨h0, by show _ < (arrV _ _ _).slots.size; rw [arrV_size]; exact hlt⟩ g1 (fun q h => by rw [g3] at h; cases h) (by rw [g2]; exact hkC) (by rw [g2]; exact hasg) rfl rfl hd fun H1 e1 z oq => ?_
  refine kk p e R s m args below meth c Qf C H1 _ cells slots ls (hW.put hB ?_ z oq) (fun q hq => by
    rcases List.mem_append.mp hq with h | h
    · exact hL q h
    · rw [List.mem_singleton.mp h]; exact hB) h1 h2 hl
  show H1[a]? = some (vp_cell _ _)
  rw [e1]
  rw [vp_cell_q, vp_cell_q, arrV_store]
  congr 2
  funext q
  by_cases hq : q = i.toNatClampNeg
  · subst hq
    simp [updV, va_up, va_rf]
  · simp [updV, va_up, hq]
theorem zv_aast4 {N ci b : Nat} {f : Nat → Option Nat} {i : Int32} {q0 : vw_C} {vs : List Value} (he : h.1 a = .inl (zg_c G 4, N, .inr (.inr (.inr (.inr f))))) (hB : zg_B G ≤ a) (hB2 : a < h.2) (hin : vp_in i N) (hv : h.1 b = .inr (ci, vs)) (hv1 : zg_B G ≤ b) (hv2 : b < h.2) (hc : vwCl[ci]? = some q0) (hcs : (q0.1, RX4) ∈ zh_cs ∨ q0.1 = RX4) (hd : decode cc pc = .ok (.aastore, 1)) (kk : zv G l y cc n r d mc ms (pc + 1) lv st (va_up h.1 a (.inl (zg_c G 4, N, .inr (.inr (.inr (.inr (va_up f i.toNatClampNeg (some b))))))), h.2) Q) : zv G l y cc n r d mc ms pc lv (.ref b :: .int i :: .ref a :: st) h Q := by
  intro p e R s m args below meth c Qf C H locs cells slots ls hW hL h1 h2 hl
  have hat := hW.2.2.2 a hB hB2
  rw [he] at hat
  have hlt : i.toNatClampNeg < N := Nat.not_le.mp fun q => hin (Or.inr q)
  have hatv := hW.2.2.2 b hv1 hv2
  rw [hv] at hatv
  obtain ⟨r', hr', cellV, g1, g2, g3, -⟩ := hatv
  have hcls := (C.2.2.1.1.1 ci q0 hc).2
  obtain ⟨kA, comp, k1, k2, k3, -⟩ := (C.2.2.1.1.2 4 _ rfl).2
  obtain ⟨kC, hkC, -⟩ := hcls.2
  have h0 : ¬ i < 0 := fun q => hin (Or.inl q)
  have hasg : s.vm.assignable (G.1.1 ci) comp = true := by
    rcases hcs with hcs | hcs
    · obtain ⟨c0, t0, f1, f2, f3⟩ := Cond.castable_spec (va_Nw.use (A := args) rfl (C.2.2.1.2.2.2.1 _ hcs))
      cases hcls.1.symm.trans f1
      cases k3.symm.trans f2
      exact f3
    · have e0 := hcls.1
      rw [hcs] at e0
      cases k3.symm.trans e0
      exact va_assign hcls
  obtain ⟨kcomp, hkcomp, -⟩ := Vm.findClass_spec k3
  refine W.aast C.1.1 C.1.2.1 hat (fun q h => by cases h) (fun h => by cases h) k1 k2 rfl hkcomp ⟨h0, by show _ < (arrV _ _ _).slots.size; rw [arrV_size]; exact hlt⟩ g1 (fun q h => by rw [g3] at h; cases h) (by rw [g2]; exact hkC) (by rw [g2]; exact hasg) rfl rfl hd fun H1 e1 z oq => ?_
  refine kk p e R s m args below meth c Qf C H1 _ cells slots ls (hW.put hB ?_ z oq) (fun q hq => by
    rcases List.mem_append.mp hq with h | h
    · exact hL q h
    · rw [List.mem_singleton.mp h]; exact hB) h1 h2 hl
  show H1[a]? = some (vp_cell _ _)
  rw [e1]
  rw [vp_cell_q, vp_cell_q, arrV_store]
  congr 2
  funext q
  by_cases hq : q = i.toNatClampNeg
  · subst hq
    simp [updV, va_up, va_rf]
  · simp [updV, va_up, hq]
theorem zv_aast3N {N : Nat} {f : Nat → Option Nat} {i : Int32} (he : h.1 a = .inl (zg_c G 3, N, .inr (.inr (.inr (.inr f))))) (hB : zg_B G ≤ a) (hB2 : a < h.2) (hin : vp_in i N) (hd : decode cc pc = .ok (.aastore, 1)) (kk : zv G l y cc n r d mc ms (pc + 1) lv st (va_up h.1 a (.inl (zg_c G 3, N, .inr (.inr (.inr (.inr (va_up f i.toNatClampNeg none)))))), h.2) Q) : zv G l y cc n r d mc ms pc lv (.null :: .int i :: .ref a :: st) h Q := by
  intro p e R s m args below meth c Qf C H locs cells slots ls hW hL h1 h2 hl
  have hat := hW.2.2.2 a hB hB2
  rw [he] at hat
  have hlt : i.toNatClampNeg < N := Nat.not_le.mp fun q => hin (Or.inr q)
  refine va_WaastN (C := RX5) C.1.1 C.1.2.1 hat ((C.2.2.1.1.2 3 _ rfl).1 N (fun j => va_rf (f j))) (fun h => by cases h) (by show ¬ (i < 0 ∨ (arrV _ _ _).slots.size ≤ _); rw [arrV_size]; exact hin) rfl rfl hd fun H1 e1 z oq => ?_
  refine kk p e R s m args below meth c Qf C H1 _ cells slots ls (hW.put hB ?_ z oq) (fun q hq => by
    rcases List.mem_append.mp hq with h | h
    · exact hL q h
    · rw [List.mem_singleton.mp h]; exact hB) h1 h2 hl
  show H1[a]? = some (vp_cell _ _)
  rw [e1]
  rw [vp_cell_q, vp_cell_q, arrV_store]
  congr 2
  funext q
  by_cases hq : q = i.toNatClampNeg
  · subst hq
    simp [updV, va_up, va_rf]
  · simp [updV, va_up, hq]
theorem zv_gets {idx : Nat} (hf : Cond.fieldLink y.cls idx "ProbeRacks" "GOES_INTO" "[I" ∈ zw) (hd : decode cc pc = .ok (.getstatic idx, 3)) (kk : zv G l y cc n r d mc ms (pc + 3) lv (.ref (zg_a G) :: st) h Q) : zv G l y cc n r d mc ms pc lv st h Q := by
  intro p e R s m args below meth c Qf C H locs cells slots ls hW hL h1 h2 hl
  obtain ⟨cf, kf, fi, f, a1, cell, f1, f2, f3, f4, f5, f6, f7, f8⟩ := C.2.2.1.2.2.2.2.2.2.1
  exact W.gets C.1.1 C.1.2.1 C.1.2.2.2.1 (C.2.1 _ hf) f1 f2 f3 f4 (by rw [hW.2.2.1 a1 (Nat.not_le.mp f8)]; exact f5) (fun e => by rw [e] at f6; cases f6) f7 rfl hd (kk p e R s m args below meth c Qf C H locs cells slots ls hW hL h1 h2 hl)
theorem zv_gald {i : Int32} (hin : vp_in i 11) (hd : decode cc pc = .ok (.iaload, 1)) (kk : zv G l y cc n r d mc ms (pc + 1) lv (.int (zg_tab i.toNatClampNeg) :: st) h Q) : zv G l y cc n r d mc ms pc lv (.int i :: .ref (zg_a G) :: st) h Q := by
  intro p e R s m args below meth c Qf C H locs cells slots ls hW hL h1 h2 hl
  obtain ⟨cell, f1, f2, f3, f4, f5, f6, f7⟩ := C.2.2.1.2.2.2.2.2.2.2
  have hlt : i.toNatClampNeg < 11 := Nat.not_le.mp fun q => hin (Or.inr q)
  exact W.iald (v := .int (zg_tab i.toNatClampNeg)) C.1.1 C.1.2.1 (by rw [hW.2.2.1 _ (Nat.not_le.mp f7)]; exact f1) f2 f3 (fun q => q.elim (fun q => hin (Or.inl q)) (fun q => by omega)) (f6 _ hlt) rfl rfl hd (kk p e R s m args below meth c Qf C H locs cells slots ls hW hL h1 h2 hl)
/-- the class that 'own' names idx is class ci, its fields at birth fs -/
def zn (own : String) (idx ci N : Nat) (fs : List Value) : Prop := ∃ (Cn : String) (T : u_T) (ty : Nat → FieldType), vwCl[ci]? = some (Cn, T, N) ∧ (∀ w ∈ u_ws Cn T N, w ∈ zw) ∧ (∀ k, k < N → parseFieldDescriptor (T k).2.2.1 = some (ty k)) ∧ Cond.classLink own idx Cn ∈ zw ∧ Cond.instantiable Cn N ∈ zw ∧ Cond.initialized Cn ∈ zw ∧ (∀ j, j < N → defaultValue (ty j) = vp_V fs j)
theorem zv_new {idx ci N : Nat} {fs : List Value} (hf : zn y.cls idx ci N fs) (hd : decode cc pc = .ok (.new idx, 3)) (kk : zv G l y cc n r d mc ms (pc + 3) lv (.ref h.2 :: st) (va_up h.1 h.2 (.inr (ci, fs)), h.2 + 1) Q) : zv G l y cc n r d (mc + 1) (ms + N) pc lv st h Q := by
  intro p e R s m args below meth c Qf C H locs cells slots ls hW hL h1 h2 hl
  obtain ⟨Cn, T, ty, hc, hin, hty, hcl, hins, hini, hfs⟩ := hf
  have hKn := C.2.2.1.1.1 ci _ hc
  refine W.newcK C.1.1 C.1.2.1 C.1.2.2.2.1 (C.2.1 _ hcl) (C.2.1 _ hins) (C.2.1 _ hini) rfl hd (by omega) (by omega) hKn.2.1 hW.1 fun H1 kC hkC e1 z1 o1 => ?_
  refine kk p e R s m args below meth c Qf C H1 _ (cells + 1) (slots + N) ls (hW.push ?_ (by rw [z1, hW.1]) (fun q hq => o1 q (by rw [← hW.1]; exact hq))) hL (by omega) (by omega) hl
  exact ⟨_, hc, (u_born ty C.2.1 hin hKn hkC e1 hty).to hfs⟩
theorem zv_newI {N : Nat} {i : Int32} (harr : Cond.arrayClass .int ∈ zw) (hi : ¬ i < 0) (hN : i.toNatClampNeg = N) (hbytes : N * 8 ≤ 536870912) (hd : decode cc pc = .ok (.newarray .int, 2)) (kk : zv G l y cc n r d mc ms (pc + 2) lv (.ref h.2 :: st) (va_up h.1 h.2 (.inl (zg_c G 0, N, .inl (fun _ => 0))), h.2 + 1) Q) : zv G l y cc n r d (mc + 1) (ms + N) pc lv (.int i :: st) h Q := by
  intro p e R s m args below meth c Qf C H locs cells slots ls hW hL h1 h2 hl
  refine va_newaK (atype := .int) C.1.1 C.1.2.1 (C.2.1 _ harr) rfl hd rfl hi hN (by simp [newarray.typeOf, componentBytes]; omega) (by omega) (by omega) hW.1 fun H1 cA e1 z1 o1 hAr hNm => ?_
  have hcA : cA = zg_c G 0 := Option.some.inj (hNm.symm.trans (C.2.2.1.1.2 0 _ rfl).2)
  subst hcA
  exact kk p e R s m args below meth c Qf C H1 _ (cells + 1) (slots + N) ls (hW.push e1 (by rw [z1, hW.1]) (fun q hq => o1 q (by rw [← hW.1]; exact hq))) hL (by omega) (by omega) hl
theorem zv_newJ {N : Nat} {i : Int32} (harr : Cond.arrayClass .long ∈ zw) (hi : ¬ i < 0) (hN : i.toNatClampNeg = N) (hbytes : N * 8 ≤ 536870912) (hd : decode cc pc = .ok (.newarray .long, 2)) (kk : zv G l y cc n r d mc ms (pc + 2) lv (.ref h.2 :: st) (va_up h.1 h.2 (.inl (zg_c G 1, N, .inr (.inl (fun _ => 0)))), h.2 + 1) Q) : zv G l y cc n r d (mc + 1) (ms + N) pc lv (.int i :: st) h Q := by
  intro p e R s m args below meth c Qf C H locs cells slots ls hW hL h1 h2 hl
  refine va_newaK (atype := .long) C.1.1 C.1.2.1 (C.2.1 _ harr) rfl hd rfl hi hN (by simp [newarray.typeOf, componentBytes]; omega) (by omega) (by omega) hW.1 fun H1 cA e1 z1 o1 hAr hNm => ?_
  have hcA : cA = zg_c G 1 := Option.some.inj (hNm.symm.trans (C.2.2.1.1.2 1 _ rfl).2)
  subst hcA
  exact kk p e R s m args below meth c Qf C H1 _ (cells + 1) (slots + N) ls (hW.push e1 (by rw [z1, hW.1]) (fun q hq => o1 q (by rw [← hW.1]; exact hq))) hL (by omega) (by omega) hl
theorem zv_newZ {N : Nat} {i : Int32} (harr : Cond.arrayClass .boolean ∈ zw) (hi : ¬ i < 0) (hN : i.toNatClampNeg = N) (hbytes : N * 8 ≤ 536870912) (hd : decode cc pc = .ok (.newarray .boolean, 2)) (kk : zv G l y cc n r d mc ms (pc + 2) lv (.ref h.2 :: st) (va_up h.1 h.2 (.inl (zg_c G 2, N, .inl (fun _ => 0))), h.2 + 1) Q) : zv G l y cc n r d (mc + 1) (ms + N) pc lv (.int i :: st) h Q := by
  intro p e R s m args below meth c Qf C H locs cells slots ls hW hL h1 h2 hl
  refine va_newaK (atype := .boolean) C.1.1 C.1.2.1 (C.2.1 _ harr) rfl hd rfl hi hN (by simp [newarray.typeOf, componentBytes]; omega) (by omega) (by omega) hW.1 fun H1 cA e1 z1 o1 hAr hNm => ?_
  have hcA : cA = zg_c G 2 := Option.some.inj (hNm.symm.trans (C.2.2.1.1.2 2 _ rfl).2)
  subst hcA
  exact kk p e R s m args below meth c Qf C H1 _ (cells + 1) (slots + N) ls (hW.push e1 (by rw [z1, hW.1]) (fun q hq => o1 q (by rw [← hW.1]; exact hq))) hL (by omega) (by omega) hl
theorem zv_newT {N idx : Nat} {i : Int32} (hcl : Cond.classLink y.cls idx RX5 ∈ zw) (hi : ¬ i < 0) (hN : i.toNatClampNeg = N) (hbytes : N * 4 ≤ 536870912) (hd : decode cc pc = .ok (.anewarray idx, 3)) (kk : zv G l y cc n r d mc ms (pc + 3) lv (.ref h.2 :: st) (va_up h.1 h.2 (.inl (zg_c G 3, N, .inr (.inr (.inr (.inr (fun _ => none)))))), h.2 + 1) Q) : zv G l y cc n r d (mc + 1) (ms + N) pc lv (.int i :: st) h Q := by
  intro p e R s m args below meth c Qf C H locs cells slots ls hW hL h1 h2 hl
  subst hN
  refine W.anew C.1.1 C.1.2.1 C.1.2.2.2.1 (C.2.1 _ hcl) (va_AO.use C.2.2.1.2.2.2.2.2.1.1) rfl hd rfl hi hbytes (by omega) (by omega) fun cA kA comp f1 f2 f3 f4 => ?_
  obtain ⟨kA2, comp2, k1, k2, k3, k4⟩ := (C.2.2.1.1.2 3 _ rfl).2
  have hcA : cA = zg_c G 3 := Option.some.inj (f1.symm.trans k4)
  subst hcA
  generalize hH1 : H.push ({ cls := zg_c G 3, slots := Array.replicate i.toNatClampNeg .null, vm := .none } : Cell) = H1
  have z1 : H1.size = H.size + 1 := by rw [← hH1, Array.size_push]
  have e1 : H1[H.size]? = some (arrV (zg_c G 3) i.toNatClampNeg (fun _ => .null)) := by rw [← hH1, Array.getElem?_push_size, ← arrV_new]
  have o1 : ∀ q : Nat, q < H.size → H1[q]? = H[q]? := fun q hq => by rw [← hH1, Array.getElem?_push, if_neg (Nat.ne_of_lt hq)]
  rw [hW.1] at e1
  have hsz : H.size = h.2 := hW.1
  refine W.eq (g2 := F0 m (pc + 3) ls (.ref h.2 :: st)) (by rw [← hsz]) ?_
  exact kk p e R s m args below meth c Qf C H1 _ (cells + 1) (slots + i.toNatClampNeg) ls (hW.push e1 z1 o1) hL (by omega) (by omega) hl
theorem zv_newS {N idx : Nat} {i : Int32} (hcl : Cond.classLink y.cls idx RX4 ∈ zw) (hi : ¬ i < 0) (hN : i.toNatClampNeg = N) (hbytes : N * 4 ≤ 536870912) (hd : decode cc pc = .ok (.anewarray idx, 3)) (kk : zv G l y cc n r d mc ms (pc + 3) lv (.ref h.2 :: st) (va_up h.1 h.2 (.inl (zg_c G 4, N, .inr (.inr (.inr (.inr (fun _ => none)))))), h.2 + 1) Q) : zv G l y cc n r d (mc + 1) (ms + N) pc lv (.int i :: st) h Q := by
  intro p e R s m args below meth c Qf C H locs cells slots ls hW hL h1 h2 hl
  subst hN
  refine W.anew C.1.1 C.1.2.1 C.1.2.2.2.1 (C.2.1 _ hcl) (va_AO.use C.2.2.1.2.2.2.2.2.1.2) rfl hd rfl hi hbytes (by omega) (by omega) fun cA kA comp f1 f2 f3 f4 => ?_
  obtain ⟨kA2, comp2, k1, k2, k3, k4⟩ := (C.2.2.1.1.2 4 _ rfl).2
  have hcA : cA = zg_c G 4 := Option.some.inj (f1.symm.trans k4)
  subst hcA
  generalize hH1 : H.push ({ cls := zg_c G 4, slots := Array.replicate i.toNatClampNeg .null, vm := .none } : Cell) = H1
  have z1 : H1.size = H.size + 1 := by rw [← hH1, Array.size_push]
  have e1 : H1[H.size]? = some (arrV (zg_c G 4) i.toNatClampNeg (fun _ => .null)) := by rw [← hH1, Array.getElem?_push_size, ← arrV_new]
  have o1 : ∀ q : Nat, q < H.size → H1[q]? = H[q]? := fun q hq => by rw [← hH1, Array.getElem?_push, if_neg (Nat.ne_of_lt hq)]
  rw [hW.1] at e1
  have hsz : H.size = h.2 := hW.1
  refine W.eq (g2 := F0 m (pc + 3) ls (.ref h.2 :: st)) (by rw [← hsz]) ?_
  exact kk p e R s m args below meth c Qf C H1 _ (cells + 1) (slots + i.toNatClampNeg) ls (hW.push e1 z1 o1) hL (by omega) (by omega) hl
theorem zh_recv {ci : Nat} {fs : List Value} {q0 : vw_C} (hK : zh_K G s) (hW : zh_W G h H) (he : h.1 a = .inr (ci, fs)) (hB : zg_B G ≤ a) (hB2 : a < h.2) (hc : vwCl[ci]? = some q0) : ∃ cell : Cell, H[a]? = some cell ∧ cell.vm.isStatics = false ∧ s.vm.findClass q0.1 = some cell.cls := by
  have hat := hW.2.2.2 a hB hB2
  rw [he] at hat
  obtain ⟨r', hr', cell, g1, g2, g3, -⟩ := hat
  exact ⟨cell, g1, by rw [g3]; rfl, by rw [g2]; exact (hK.1.1 ci q0 hc).2.1⟩
theorem zv_instY {idx ci : Nat} {fs : List Value} {q0 : vw_C} {nm : String} (he : h.1 a = .inr (ci, fs)) (hB : zg_B G ≤ a) (hB2 : a < h.2) (hc : vwCl[ci]? = some q0) (hl0 : Cond.classLink y.cls idx nm ∈ zw) (hcs : (q0.1, nm) ∈ zh_cs) (hd : decode cc pc = .ok (.instanceof idx, 3)) (kk : zv G l y cc n r d mc ms (pc + 3) lv (.int 1 :: st) h Q) : zv G l y cc n r d mc ms pc lv (.ref a :: st) h Q := by
  intro p e R s m args below meth c Qf C H locs cells slots ls hW hL h1 h2 hl
  exact va_instY C.1.1 C.1.2.1 C.1.2.2.2.1 (C.2.1 _ hl0) (C.2.2.1.2.2.2.1 _ hcs) (zh_recv C.2.2.1 hW he hB hB2 hc) hd (kk p e R s m args below meth c Qf C H locs cells slots ls hW hL h1 h2 hl)
theorem zv_instNo {idx ci : Nat} {fs : List Value} {q0 : vw_C} {nm : String} (he : h.1 a = .inr (ci, fs)) (hB : zg_B G ≤ a) (hB2 : a < h.2) (hc : vwCl[ci]? = some q0) (hl0 : Cond.classLink y.cls idx nm ∈ zw) (hcs : (q0.1, nm) ∈ zh_nc) (hd : decode cc pc = .ok (.instanceof idx, 3)) (kk : zv G l y cc n r d mc ms (pc + 3) lv (.int 0 :: st) h Q) : zv G l y cc n r d mc ms pc lv (.ref a :: st) h Q := by
  intro p e R s m args below meth c Qf C H locs cells slots ls hW hL h1 h2 hl
  exact va_instNo C.1.1 C.1.2.1 C.1.2.2.2.1 (C.2.1 _ hl0) (C.2.2.1.2.2.2.2.1 _ hcs) (zh_recv C.2.2.1 hW he hB hB2 hc) hd (kk p e R s m args below meth c Qf C H locs cells slots ls hW hL h1 h2 hl)
theorem zv_castY {idx ci : Nat} {fs : List Value} {q0 : vw_C} {nm : String} (he : h.1 a = .inr (ci, fs)) (hB : zg_B G ≤ a) (hB2 : a < h.2) (hc : vwCl[ci]? = some q0) (hl0 : Cond.classLink y.cls idx nm ∈ zw) (hcs : (q0.1, nm) ∈ zh_cs) (hd : decode cc pc = .ok (.checkcast idx, 3)) (kk : zv G l y cc n r d mc ms (pc + 3) lv (.ref a :: st) h Q) : zv G l y cc n r d mc ms pc lv (.ref a :: st) h Q := by
  intro p e R s m args below meth c Qf C H locs cells slots ls hW hL h1 h2 hl
  exact va_castY C.1.1 C.1.2.1 C.1.2.2.2.1 (C.2.1 _ hl0) (C.2.2.1.2.2.2.1 _ hcs) (zh_recv C.2.2.1 hW he hB hB2 hc) hd (kk p e R s m args below meth c Qf C H locs cells slots ls hW hL h1 h2 hl)
theorem zv_instN {idx : Nat} (hd : decode cc pc = .ok (.instanceof idx, 3)) (kk : zv G l y cc n r d mc ms (pc + 3) lv (.int 0 :: st) h Q) : zv G l y cc n r d mc ms pc lv (.null :: st) h Q := by
  intro p e R s m args below meth c Qf C H locs cells slots ls hW hL h1 h2 hl
  exact lv_instN C.1.1 C.1.2.1 hd (kk p e R s m args below meth c Qf C H locs cells slots ls hW hL h1 h2 hl)
theorem zv_after {mc1 ms1 : Nat} {st0 : List Value} {Q1 : Option Value → zh_H → Prop} (hr : va_Run p l e R s m args below meth c H locs cells slots mc1 ms1 (F0 m pc ls st0) rest (fun _ oc t => ∃ (v : Option Value) (h' : zh_H), oc = .returned v ∧ Q1 v h' ∧ zh_W G h' t.heap) (fun q => zg_B G ≤ q)) (hL : ∀ q ∈ locs, zg_B G ≤ q.base) (kk : ∀ (v : Option Value) (h' : zh_H) (H1 : Heap) (locs1 : List Loc), Q1 v h' → zh_W G h' H1 → (∀ q ∈ locs1, zg_B G ≤ q.base) → W p l e R s m args below meth c H1 locs1 (cells + mc1) (slots + ms1) Qf (F0 m (pc + 3) ls (v.toList ++ rest))) : W p l e R s m args below meth c H locs cells slots Qf (F0 m pc ls st0) := by
  intro T hT X
  obtain ⟨v, st₀, t, T', L, h0, X', hLL, e1, e2, ⟨v', h', hv, hq, hw⟩, stp⟩ := hr T hT X
  cases hv
  obtain ⟨t2, a1, b1⟩ := kk v h' T'.heap (locs ++ L) hq (by rw [e1]; exact hw) (fun q hq => (List.mem_append.mp hq).elim (hL q) (hLL q)) T' rfl X'
  exact ⟨t2, stp t2 a1, b1⟩
/-- the method that 'own' names idx: its code, its link, its class; k arguments -/
def zm (own : String) (idx : Nat) (y1 : MethodName) (cc1 : ByteArray) (n1 : Nat) (r1 : Option FieldType) (k : Nat) : Prop := Cond.code y1 cc1 n1 r1 ∈ zw ∧ (Cond.methodLink own idx y1 ∈ zw ∨ (own, idx, y1) ∈ zh_nM) ∧ Cond.initialized y1.cls ∈ zw ∧ (y1.cls ≠ "java/lang/invoke/MethodHandle" ∧ y1.cls ≠ "java/lang/invoke/VarHandle" ∧ (parseMethodDescriptor y1.desc).map (fun d => d.parameters.length) = some k) ∧ n1 ≤ 11
theorem zh_good {y1 : MethodName} {cc1 : ByteArray} {n1 : Nat} {r1 : Option FieldType} (hc : Cond.code y1 cc1 n1 r1 ∈ zw) : GoodIn zw (Cond.code y1 cc1 n1 r1 :: zw) := fun w hw => (List.mem_cons.mp hw).elim (fun e => by rw [e]; exact ⟨hc, zw_good hc⟩) (fun h => ⟨h, zw_good h⟩)
theorem zh_blind {av : List Value} : FrameBlind (va_Pc av (fun U => zh_K G U ∧ zh_W G h U.heap)) := fun a U g mk hq => ⟨hq.1, hq.2.1.warm (U := U.calling g mk a) (State.WarmedH.refl U), hq.2.2⟩
theorem zv_callS {y1 : MethodName} {cc1 : ByteArray} {n1 d1 k mc1 ms1 idx : Nat} {r1 : Option FieldType} {As rest : List Value}  {Q1 : Option Value → zh_H → Prop} (hm : zm y.cls idx y1 cc1 n1 r1 k) (hs : Cond.static y1 ∈ zw) (hM : zc G l y1 cc1 n1 r1 d1 As h mc1 ms1 Q1) (hst : st = As.reverse ++ rest) (hk : As.length = k) (hcat : (rest.map fun v => v.category).sum ≤ 8) (hdd : d1 + 1 ≤ d) (hd : decode cc pc = .ok (.invokestatic idx, 3)) (kk : ∀ (v : Option Value) (h' : zh_H), Q1 v h' → zv G l y cc n r d mc ms (pc + 3) lv (v.toList ++ rest) h' Q) : zv G l y cc n r d (mc1 + mc) (ms1 + ms) pc lv st h Q := by
  intro p e R s m args below meth c Qf C H locs cells slots ls hW hL h1 h2 hl
  have hn8 := hm.2.2.2.2
  have hd1 := C.2.2.2.1
  have hrn : va_Run p l e R s m args below meth c H locs cells slots mc1 ms1 (F0 m pc ls st) rest (fun _ oc t => ∃ (v : Option Value) (h' : zh_H), oc = .returned v ∧ Q1 v h' ∧ zh_W G h' t.heap) (fun q => zg_B G ≤ q) := by
    rcases hm.2.1 with hlk | hlk
    · exact va_runS (n := k) ⟨C.1.1, C.1.2.1, C.1.2.2.1, C.1.2.2.2.1, C.2.1⟩ hM ⟨callB_of k C.2.1 (zh_good hm.1) rfl rfl rfl (C.2.1 _ hm.2.2.1) (C.2.1 _ hlk) hm.2.2.2.1 ⟨by show d1 + 1 ≤ _; omega, by show 8 + (n1 + 11) + 30 * d1 ≤ _; omega⟩, C.2.1 _ hs⟩ ⟨zh_blind, fun U hU hWm => ⟨rfl, C.2.2.1.warm hWm, by rw [hU]; exact hW⟩⟩ rfl hk hl.1 hst (lv_room hcat) hd ⟨by omega, by omega⟩
    · exact va_runSN (n := k) ⟨C.1.1, C.1.2.1, C.1.2.2.1, C.1.2.2.2.1, C.2.1⟩ hM ⟨va_cnB k C.2.1 (zh_good hm.1) rfl rfl rfl (C.2.2.1.2.2.1 _ hlk) (C.2.1 _ hm.2.2.1) hm.2.2.2.1 ⟨by show d1 + 1 ≤ _; omega, by show 8 + (n1 + 11) + 30 * d1 ≤ _; omega⟩, C.2.1 _ hs, trivial⟩ ⟨zh_blind, fun U hU hWm => ⟨rfl, C.2.2.1.warm hWm, by rw [hU]; exact hW⟩⟩ rfl hk hl.1 hst (lv_room hcat) hd ⟨by omega, by omega⟩
  exact zv_after hrn hL (fun v h' H1 locs1 hq hw hL1 => kk v h' hq p e R s m args below meth c Qf C H1 locs1 _ _ ls hw hL1 (by omega) (by omega) hl)
theorem zv_callSq {y1 : MethodName} {cc1 : ByteArray} {n1 d1 k mc1 ms1 idx : Nat} {r1 : Option FieldType} {As rest : List Value}  {v0 : Option Value} {h0 : zh_H} (hm : zm y.cls idx y1 cc1 n1 r1 k) (hs : Cond.static y1 ∈ zw) (hM : zc G l y1 cc1 n1 r1 d1 As h mc1 ms1 (fun v h' => v = v0 ∧ h' = h0)) (hst : st = As.reverse ++ rest) (hk : As.length = k) (hcat : (rest.map fun v => v.category).sum ≤ 8) (hdd : d1 + 1 ≤ d) (hd : decode cc pc = .ok (.invokestatic idx, 3)) (kk : zv G l y cc n r d mc ms (pc + 3) lv (v0.toList ++ rest) h0 Q) : zv G l y cc n r d (mc1 + mc) (ms1 + ms) pc lv st h Q := by
  intro p e R s m args below meth c Qf C H locs cells slots ls hW hL h1 h2 hl
  have hn8 := hm.2.2.2.2
  have hd1 := C.2.2.2.1
  have hrn : va_Run p l e R s m args below meth c H locs cells slots mc1 ms1 (F0 m pc ls st) rest (fun _ oc t => ∃ (v : Option Value) (h' : zh_H), oc = .returned v ∧ (fun v h' => v = v0 ∧ h' = h0) v h' ∧ zh_W G h' t.heap) (fun q => zg_B G ≤ q) := by
    rcases hm.2.1 with hlk | hlk
    · exact va_runS (n := k) ⟨C.1.1, C.1.2.1, C.1.2.2.1, C.1.2.2.2.1, C.2.1⟩ hM ⟨callB_of k C.2.1 (zh_good hm.1) rfl rfl rfl (C.2.1 _ hm.2.2.1) (C.2.1 _ hlk) hm.2.2.2.1 ⟨by show d1 + 1 ≤ _; omega, by show 8 + (n1 + 11) + 30 * d1 ≤ _; omega⟩, C.2.1 _ hs⟩ ⟨zh_blind, fun U hU hWm => ⟨rfl, C.2.2.1.warm hWm, by rw [hU]; exact hW⟩⟩ rfl hk hl.1 hst (lv_room hcat) hd ⟨by omega, by omega⟩
    · exact va_runSN (n := k) ⟨C.1.1, C.1.2.1, C.1.2.2.1, C.1.2.2.2.1, C.2.1⟩ hM ⟨va_cnB k C.2.1 (zh_good hm.1) rfl rfl rfl (C.2.2.1.2.2.1 _ hlk) (C.2.1 _ hm.2.2.1) hm.2.2.2.1 ⟨by show d1 + 1 ≤ _; omega, by show 8 + (n1 + 11) + 30 * d1 ≤ _; omega⟩, C.2.1 _ hs, trivial⟩ ⟨zh_blind, fun U hU hWm => ⟨rfl, C.2.2.1.warm hWm, by rw [hU]; exact hW⟩⟩ rfl hk hl.1 hst (lv_room hcat) hd ⟨by omega, by omega⟩
  exact zv_after hrn hL (fun v h' H1 locs1 hq hw hL1 => by obtain ⟨rfl, rfl⟩ := hq; exact kk p e R s m args below meth c Qf C H1 locs1 _ _ ls hw hL1 (by omega) (by omega) hl)
theorem zv_callV {y1 : MethodName} {cc1 : ByteArray} {n1 d1 k mc1 ms1 idx : Nat} {r1 : Option FieldType} {As rest : List Value} {b ci : Nat} {fs : List Value} {q0 : vw_C} {Q1 : Option Value → zh_H → Prop} (hm : zm y.cls idx y1 cc1 n1 r1 k) (hs : Cond.instanceMethod y1 ∈ zw ∧ Cond.selects y1.cls y1 y1 ∈ zw) (he : h.1 b = .inr (ci, fs)) (hB : zg_B G ≤ b) (hB2 : b < h.2) (hc : vwCl[ci]? = some q0) (hcn : q0.1 = y1.cls) (hM : zc G l y1 cc1 n1 r1 d1 (.ref b :: As) h mc1 ms1 Q1) (hst : st = As.reverse ++ .ref b :: rest) (hk : As.length = k) (hcat : (rest.map fun v => v.category).sum ≤ 8) (hdd : d1 + 1 ≤ d) (hd : decode cc pc = .ok (.invokevirtual idx, 3)) (kk : ∀ (v : Option Value) (h' : zh_H), Q1 v h' → zv G l y cc n r d mc ms (pc + 3) lv (v.toList ++ rest) h' Q) : zv G l y cc n r d (mc1 + mc) (ms1 + ms) pc lv st h Q := by
  intro p e R s m args below meth c Qf C H locs cells slots ls hW hL h1 h2 hl
  have hn8 := hm.2.2.2.2
  have hd1 := C.2.2.2.1
  have hrn : va_Run p l e R s m args below meth c H locs cells slots mc1 ms1 (F0 m pc ls st) rest (fun _ oc t => ∃ (v : Option Value) (h' : zh_H), oc = .returned v ∧ Q1 v h' ∧ zh_W G h' t.heap) (fun q => zg_B G ≤ q) := by
    rcases hm.2.1 with hlk | hlk
    · exact va_runV (n := k) ⟨C.1.1, C.1.2.1, C.1.2.2.1, C.1.2.2.2.1, C.2.1⟩ hM ⟨callB_of k C.2.1 (zh_good hm.1) rfl rfl rfl (C.2.1 _ hm.2.2.1) (C.2.1 _ hlk) hm.2.2.2.1 ⟨by show d1 + 1 ≤ _; omega, by show 8 + (n1 + 11) + 30 * d1 ≤ _; omega⟩, C.2.1 _ hs.1, C.2.1 _ hs.2⟩ ⟨zh_blind, (by rw [← hcn]; exact zh_recv C.2.2.1 hW he hB hB2 hc), fun U hU hWm => ⟨rfl, C.2.2.1.warm hWm, by rw [hU]; exact hW⟩⟩ rfl hk hl.1 hst (lv_room hcat) hd ⟨by omega, by omega⟩
    · exact va_runVN (n := k) ⟨C.1.1, C.1.2.1, C.1.2.2.1, C.1.2.2.2.1, C.2.1⟩ hM ⟨va_cnB k C.2.1 (zh_good hm.1) rfl rfl rfl (C.2.2.1.2.2.1 _ hlk) (C.2.1 _ hm.2.2.1) hm.2.2.2.1 ⟨by show d1 + 1 ≤ _; omega, by show 8 + (n1 + 11) + 30 * d1 ≤ _; omega⟩, C.2.1 _ hs.1, C.2.1 _ hs.2⟩ ⟨zh_blind, (by rw [← hcn]; exact zh_recv C.2.2.1 hW he hB hB2 hc), fun U hU hWm => ⟨rfl, C.2.2.1.warm hWm, by rw [hU]; exact hW⟩⟩ rfl hk hl.1 hst (lv_room hcat) hd ⟨by omega, by omega⟩
  exact zv_after hrn hL (fun v h' H1 locs1 hq hw hL1 => kk v h' hq p e R s m args below meth c Qf C H1 locs1 _ _ ls hw hL1 (by omega) (by omega) hl)
theorem zv_callVq {y1 : MethodName} {cc1 : ByteArray} {n1 d1 k mc1 ms1 idx : Nat} {r1 : Option FieldType} {As rest : List Value} {b ci : Nat} {fs : List Value} {q0 : vw_C} {v0 : Option Value} {h0 : zh_H} (hm : zm y.cls idx y1 cc1 n1 r1 k) (hs : Cond.instanceMethod y1 ∈ zw ∧ Cond.selects y1.cls y1 y1 ∈ zw) (he : h.1 b = .inr (ci, fs)) (hB : zg_B G ≤ b) (hB2 : b < h.2) (hc : vwCl[ci]? = some q0) (hcn : q0.1 = y1.cls) (hM : zc G l y1 cc1 n1 r1 d1 (.ref b :: As) h mc1 ms1 (fun v h' => v = v0 ∧ h' = h0)) (hst : st = As.reverse ++ .ref b :: rest) (hk : As.length = k) (hcat : (rest.map fun v => v.category).sum ≤ 8) (hdd : d1 + 1 ≤ d) (hd : decode cc pc = .ok (.invokevirtual idx, 3)) (kk : zv G l y cc n r d mc ms (pc + 3) lv (v0.toList ++ rest) h0 Q) : zv G l y cc n r d (mc1 + mc) (ms1 + ms) pc lv st h Q := by
  intro p e R s m args below meth c Qf C H locs cells slots ls hW hL h1 h2 hl
  have hn8 := hm.2.2.2.2
  have hd1 := C.2.2.2.1
  have hrn : va_Run p l e R s m args below meth c H locs cells slots mc1 ms1 (F0 m pc ls st) rest (fun _ oc t => ∃ (v : Option Value) (h' : zh_H), oc = .returned v ∧ (fun v h' => v = v0 ∧ h' = h0) v h' ∧ zh_W G h' t.heap) (fun q => zg_B G ≤ q) := by
    rcases hm.2.1 with hlk | hlk
    · exact va_runV (n := k) ⟨C.1.1, C.1.2.1, C.1.2.2.1, C.1.2.2.2.1, C.2.1⟩ hM ⟨callB_of k C.2.1 (zh_good hm.1) rfl rfl rfl (C.2.1 _ hm.2.2.1) (C.2.1 _ hlk) hm.2.2.2.1 ⟨by show d1 + 1 ≤ _; omega, by show 8 + (n1 + 11) + 30 * d1 ≤ _; omega⟩, C.2.1 _ hs.1, C.2.1 _ hs.2⟩ ⟨zh_blind, (by rw [← hcn]; exact zh_recv C.2.2.1 hW he hB hB2 hc), fun U hU hWm => ⟨rfl, C.2.2.1.warm hWm, by rw [hU]; exact hW⟩⟩ rfl hk hl.1 hst (lv_room hcat) hd ⟨by omega, by omega⟩
    · exact va_runVN (n := k) ⟨C.1.1, C.1.2.1, C.1.2.2.1, C.1.2.2.2.1, C.2.1⟩ hM ⟨va_cnB k C.2.1 (zh_good hm.1) rfl rfl rfl (C.2.2.1.2.2.1 _ hlk) (C.2.1 _ hm.2.2.1) hm.2.2.2.1 ⟨by show d1 + 1 ≤ _; omega, by show 8 + (n1 + 11) + 30 * d1 ≤ _; omega⟩, C.2.1 _ hs.1, C.2.1 _ hs.2⟩ ⟨zh_blind, (by rw [← hcn]; exact zh_recv C.2.2.1 hW he hB hB2 hc), fun U hU hWm => ⟨rfl, C.2.2.1.warm hWm, by rw [hU]; exact hW⟩⟩ rfl hk hl.1 hst (lv_room hcat) hd ⟨by omega, by omega⟩
  exact zv_after hrn hL (fun v h' H1 locs1 hq hw hL1 => by obtain ⟨rfl, rfl⟩ := hq; exact kk p e R s m args below meth c Qf C H1 locs1 _ _ ls hw hL1 (by omega) (by omega) hl)
theorem zv_callI {y1 : MethodName} {cc1 : ByteArray} {n1 d1 k mc1 ms1 idx : Nat} {As rest : List Value} {b : Nat} {Q1 : Option Value → zh_H → Prop} (hm : zm y.cls idx y1 cc1 n1 none k) (hs : y1.name = "<init>" ∧ Cond.instanceMethod y1 ∈ zw) (hM : zc G l y1 cc1 n1 none d1 (.ref b :: As) h mc1 ms1 Q1) (hst : st = As.reverse ++ .ref b :: rest) (hk : As.length = k) (hcat : (rest.map fun v => v.category).sum ≤ 8) (hdd : d1 + 1 ≤ d) (hd : decode cc pc = .ok (.invokespecial idx, 3)) (kk : ∀ (v : Option Value) (h' : zh_H), Q1 v h' → zv G l y cc n r d mc ms (pc + 3) lv (v.toList ++ rest) h' Q) : zv G l y cc n r d (mc1 + mc) (ms1 + ms) pc lv st h Q := by
  intro p e R s m args below meth c Qf C H locs cells slots ls hW hL h1 h2 hl
  have hn8 := hm.2.2.2.2
  have hd1 := C.2.2.2.1
  have hrn : va_Run p l e R s m args below meth c H locs cells slots mc1 ms1 (F0 m pc ls st) rest (fun _ oc t => ∃ (v : Option Value) (h' : zh_H), oc = .returned v ∧ Q1 v h' ∧ zh_W G h' t.heap) (fun q => zg_B G ≤ q) := by
    rcases hm.2.1 with hlk | hlk
    · exact va_runI (n := k) ⟨C.1.1, C.1.2.1, C.1.2.2.1, C.1.2.2.2.1, C.2.1⟩ hM ⟨callB_of k C.2.1 (zh_good hm.1) rfl rfl rfl (C.2.1 _ hm.2.2.1) (C.2.1 _ hlk) hm.2.2.2.1 ⟨by show d1 + 1 ≤ _; omega, by show 8 + (n1 + 11) + 30 * d1 ≤ _; omega⟩, hs.1, C.2.1 _ hs.2⟩ ⟨zh_blind, fun U hU hWm => ⟨rfl, C.2.2.1.warm hWm, by rw [hU]; exact hW⟩⟩ rfl hk hl.1 hst (lv_room hcat) hd ⟨by omega, by omega⟩
    · exact va_runIN (n := k) ⟨C.1.1, C.1.2.1, C.1.2.2.1, C.1.2.2.2.1, C.2.1⟩ hM ⟨va_cnB k C.2.1 (zh_good hm.1) rfl rfl rfl (C.2.2.1.2.2.1 _ hlk) (C.2.1 _ hm.2.2.1) hm.2.2.2.1 ⟨by show d1 + 1 ≤ _; omega, by show 8 + (n1 + 11) + 30 * d1 ≤ _; omega⟩, hs.1, C.2.1 _ hs.2⟩ ⟨zh_blind, fun U hU hWm => ⟨rfl, C.2.2.1.warm hWm, by rw [hU]; exact hW⟩⟩ rfl hk hl.1 hst (lv_room hcat) hd ⟨by omega, by omega⟩
  exact zv_after hrn hL (fun v h' H1 locs1 hq hw hL1 => kk v h' hq p e R s m args below meth c Qf C H1 locs1 _ _ ls hw hL1 (by omega) (by omega) hl)
theorem zv_callIq {y1 : MethodName} {cc1 : ByteArray} {n1 d1 k mc1 ms1 idx : Nat} {As rest : List Value} {b : Nat} {v0 : Option Value} {h0 : zh_H} (hm : zm y.cls idx y1 cc1 n1 none k) (hs : y1.name = "<init>" ∧ Cond.instanceMethod y1 ∈ zw) (hM : zc G l y1 cc1 n1 none d1 (.ref b :: As) h mc1 ms1 (fun v h' => v = v0 ∧ h' = h0)) (hst : st = As.reverse ++ .ref b :: rest) (hk : As.length = k) (hcat : (rest.map fun v => v.category).sum ≤ 8) (hdd : d1 + 1 ≤ d) (hd : decode cc pc = .ok (.invokespecial idx, 3)) (kk : zv G l y cc n r d mc ms (pc + 3) lv (v0.toList ++ rest) h0 Q) : zv G l y cc n r d (mc1 + mc) (ms1 + ms) pc lv st h Q := by
  intro p e R s m args below meth c Qf C H locs cells slots ls hW hL h1 h2 hl
  have hn8 := hm.2.2.2.2
  have hd1 := C.2.2.2.1
  have hrn : va_Run p l e R s m args below meth c H locs cells slots mc1 ms1 (F0 m pc ls st) rest (fun _ oc t => ∃ (v : Option Value) (h' : zh_H), oc = .returned v ∧ (fun v h' => v = v0 ∧ h' = h0) v h' ∧ zh_W G h' t.heap) (fun q => zg_B G ≤ q) := by
    rcases hm.2.1 with hlk | hlk
    · exact va_runI (n := k) ⟨C.1.1, C.1.2.1, C.1.2.2.1, C.1.2.2.2.1, C.2.1⟩ hM ⟨callB_of k C.2.1 (zh_good hm.1) rfl rfl rfl (C.2.1 _ hm.2.2.1) (C.2.1 _ hlk) hm.2.2.2.1 ⟨by show d1 + 1 ≤ _; omega, by show 8 + (n1 + 11) + 30 * d1 ≤ _; omega⟩, hs.1, C.2.1 _ hs.2⟩ ⟨zh_blind, fun U hU hWm => ⟨rfl, C.2.2.1.warm hWm, by rw [hU]; exact hW⟩⟩ rfl hk hl.1 hst (lv_room hcat) hd ⟨by omega, by omega⟩
    · exact va_runIN (n := k) ⟨C.1.1, C.1.2.1, C.1.2.2.1, C.1.2.2.2.1, C.2.1⟩ hM ⟨va_cnB k C.2.1 (zh_good hm.1) rfl rfl rfl (C.2.2.1.2.2.1 _ hlk) (C.2.1 _ hm.2.2.1) hm.2.2.2.1 ⟨by show d1 + 1 ≤ _; omega, by show 8 + (n1 + 11) + 30 * d1 ≤ _; omega⟩, hs.1, C.2.1 _ hs.2⟩ ⟨zh_blind, fun U hU hWm => ⟨rfl, C.2.2.1.warm hWm, by rw [hU]; exact hW⟩⟩ rfl hk hl.1 hst (lv_room hcat) hd ⟨by omega, by omega⟩
  exact zv_after hrn hL (fun v h' H1 locs1 hq hw hL1 => by obtain ⟨rfl, rfl⟩ := hq; exact kk p e R s m args below meth c Qf C H1 locs1 _ _ ls hw hL1 (by omega) (by omega) hl)
theorem zv_objInit {idx : Nat} (hm : Cond.methodLink y.cls idx objectInit ∈ zw) (hi : Cond.instanceMethod objectInit ∈ zw) (hco : Cond.code objectInit ⟨#[0xb1]⟩ 1 none ∈ zw) (hcat : (st.map fun v => v.category).sum ≤ 8) (hdd : 1 ≤ d) (hd : decode cc pc = .ok (.invokespecial idx, 3)) (kk : zv G l y cc n r d mc ms (pc + 3) lv st h Q) : zv G l y cc n r d mc ms pc lv (.ref a :: st) h Q := by
  intro p e R s m args below meth c Qf C H locs cells slots ls hW hL h1 h2 hl
  have hd1 := C.2.2.2.1
  have hrm := lv_room (m := m) (pc := pc) (ls := ls) (rest := .ref a :: st) hcat
  exact W.objInit C.1.1 C.1.2.1 C.1.2.2.2.1 (C.2.1 _ hm) (C.2.1 _ hi) (C.2.1 _ hco) rfl (by rw [C.1.2.2.1]; exact hl.1) rfl hd (by omega) (by omega) (kk p e R s m args below meth c Qf C H locs cells slots ls hW hL h1 h2 hl)
end ZH
end
section
theorem zu_X0 : ∀ w ∈ u_ws RX0 TX0 3, w ∈ zw := by
  intro w hw
  obtain ⟨k, hk, rfl⟩ := List.mem_map.mp hw
  have hk := List.mem_range.mp hk
  match k, hk with
  | 0, _ => exact zw_in 66 (by decide +kernel) (by decide +kernel)
  | 1, _ => exact zw_in 68 (by decide +kernel) (by decide +kernel)
  | 2, _ => exact zw_in 70 (by decide +kernel) (by decide +kernel)
  | k + 3, hk => exact absurd hk (by omega)
theorem zu_X1 : ∀ w ∈ u_ws RX1 TX1 3, w ∈ zw := by
  intro w hw
  obtain ⟨k, hk, rfl⟩ := List.mem_map.mp hw
  have hk := List.mem_range.mp hk
  match k, hk with
  | 0, _ => exact zw_in 170 (by decide +kernel) (by decide +kernel)
  | 1, _ => exact zw_in 172 (by decide +kernel) (by decide +kernel)
  | 2, _ => exact zw_in 168 (by decide +kernel) (by decide +kernel)
  | k + 3, hk => exact absurd hk (by omega)
theorem zu_X2 : ∀ w ∈ u_ws RX2 TX2 2, w ∈ zw := by
  intro w hw
  obtain ⟨k, hk, rfl⟩ := List.mem_map.mp hw
  have hk := List.mem_range.mp hk
  match k, hk with
  | 0, _ => exact zw_in 228 (by decide +kernel) (by decide +kernel)
  | 1, _ => exact zw_in 230 (by decide +kernel) (by decide +kernel)
  | k + 2, hk => exact absurd hk (by omega)
theorem zu_X4 : ∀ w ∈ u_ws RX4 TX4 6, w ∈ zw := by
  intro w hw
  obtain ⟨k, hk, rfl⟩ := List.mem_map.mp hw
  have hk := List.mem_range.mp hk
  match k, hk with
  | 0, _ => exact zw_in 92 (by decide +kernel) (by decide +kernel)
  | 1, _ => exact zw_in 94 (by decide +kernel) (by decide +kernel)
  | 2, _ => exact zw_in 96 (by decide +kernel) (by decide +kernel)
  | 3, _ => exact zw_in 98 (by decide +kernel) (by decide +kernel)
  | 4, _ => exact zw_in 100 (by decide +kernel) (by decide +kernel)
  | 5, _ => exact zw_in 102 (by decide +kernel) (by decide +kernel)
  | k + 6, hk => exact absurd hk (by omega)
theorem zu_X6 : ∀ w ∈ u_ws RX6 TX6 3, w ∈ zw := by
  intro w hw
  obtain ⟨k, hk, rfl⟩ := List.mem_map.mp hw
  have hk := List.mem_range.mp hk
  match k, hk with
  | 0, _ => exact zw_in 187 (by decide +kernel) (by decide +kernel)
  | 1, _ => exact zw_in 188 (by decide +kernel) (by decide +kernel)
  | 2, _ => exact zw_in 185 (by decide +kernel) (by decide +kernel)
  | k + 3, hk => exact absurd hk (by omega)
theorem zu_X7 : ∀ w ∈ u_ws RX7 TX7 8, w ∈ zw := by
  intro w hw
  obtain ⟨k, hk, rfl⟩ := List.mem_map.mp hw
  have hk := List.mem_range.mp hk
  match k, hk with
  | 0, _ => exact zw_in 113 (by decide +kernel) (by decide +kernel)
  | 1, _ => exact zw_in 115 (by decide +kernel) (by decide +kernel)
  | 2, _ => exact zw_in 117 (by decide +kernel) (by decide +kernel)
  | 3, _ => exact zw_in 119 (by decide +kernel) (by decide +kernel)
  | 4, _ => exact zw_in 121 (by decide +kernel) (by decide +kernel)
  | 5, _ => exact zw_in 123 (by decide +kernel) (by decide +kernel)
  | 6, _ => exact zw_in 125 (by decide +kernel) (by decide +kernel)
  | 7, _ => exact zw_in 127 (by decide +kernel) (by decide +kernel)
  | k + 8, hk => exact absurd hk (by omega)
theorem zu_X8 : ∀ w ∈ u_ws RX8 TX8 20, w ∈ zw := by
  intro w hw
  obtain ⟨k, hk, rfl⟩ := List.mem_map.mp hw
  have hk := List.mem_range.mp hk
  match k, hk with
  | 0, _ => exact zw_in 434 (by decide +kernel) (by decide +kernel)
  | 1, _ => exact zw_in 436 (by decide +kernel) (by decide +kernel)
  | 2, _ => exact zw_in 438 (by decide +kernel) (by decide +kernel)
  | 3, _ => exact zw_in 440 (by decide +kernel) (by decide +kernel)
  | 4, _ => exact zw_in 442 (by decide +kernel) (by decide +kernel)
  | 5, _ => exact zw_in 444 (by decide +kernel) (by decide +kernel)
  | 6, _ => exact zw_in 446 (by decide +kernel) (by decide +kernel)
  | 7, _ => exact zw_in 448 (by decide +kernel) (by decide +kernel)
  | 8, _ => exact zw_in 450 (by decide +kernel) (by decide +kernel)
  | 9, _ => exact zw_in 452 (by decide +kernel) (by decide +kernel)
  | 10, _ => exact zw_in 454 (by decide +kernel) (by decide +kernel)
  | 11, _ => exact zw_in 456 (by decide +kernel) (by decide +kernel)
  | 12, _ => exact zw_in 458 (by decide +kernel) (by decide +kernel)
  | 13, _ => exact zw_in 460 (by decide +kernel) (by decide +kernel)
  | 14, _ => exact zw_in 462 (by decide +kernel) (by decide +kernel)
  | 15, _ => exact zw_in 464 (by decide +kernel) (by decide +kernel)
  | 16, _ => exact zw_in 466 (by decide +kernel) (by decide +kernel)
  | 17, _ => exact zw_in 468 (by decide +kernel) (by decide +kernel)
  | 18, _ => exact zw_in 470 (by decide +kernel) (by decide +kernel)
  | 19, _ => exact zw_in 472 (by decide +kernel) (by decide +kernel)
  | k + 20, hk => exact absurd hk (by omega)
theorem zf_X0_9_0 : zf RX0 9 0 0 := ⟨_, _, _, "ProbeRacks$Held", rfl, by decide, zu_X0, Or.inl (zw_in 60 (by decide +kernel) (by decide +kernel)), Or.inl rfl⟩
theorem zfw_X0_9_0 : zfw RX0 9 0 0 .int false := ⟨_, _, _, "ProbeRacks$Held", tyX0, rfl, by decide, zu_X0, Or.inl (zw_in 60 (by decide +kernel) (by decide +kernel)), Or.inl rfl, tyX0_ok, nmX0, rfl, rfl, fun h => by cases h⟩
theorem zf_X7_76_0 : zf RX7 76 0 0 := ⟨_, _, _, "ProbeRacks$Held", rfl, by decide, zu_X0, Or.inr (by decide +kernel), Or.inl rfl⟩
theorem zfw_X7_76_0 : zfw RX7 76 0 0 .int false := ⟨_, _, _, "ProbeRacks$Held", tyX0, rfl, by decide, zu_X0, Or.inr ⟨rfl, by decide +kernel⟩, Or.inl rfl, tyX0_ok, nmX0, rfl, rfl, fun h => by cases h⟩
theorem zf_X0_19_0 : zf RX0 19 0 1 := ⟨_, _, _, "ProbeRacks$Held", rfl, by decide, zu_X0, Or.inl (zw_in 62 (by decide +kernel) (by decide +kernel)), Or.inl rfl⟩
theorem zfw_X0_19_0 : zfw RX0 19 0 1 .long false := ⟨_, _, _, "ProbeRacks$Held", tyX0, rfl, by decide, zu_X0, Or.inl (zw_in 62 (by decide +kernel) (by decide +kernel)), Or.inl rfl, tyX0_ok, nmX0, rfl, rfl, fun h => by cases h⟩
theorem zf_X7_90_0 : zf RX7 90 0 1 := ⟨_, _, _, "ProbeRacks$Held", rfl, by decide, zu_X0, Or.inr (by decide +kernel), Or.inl rfl⟩
theorem zfw_X7_90_0 : zfw RX7 90 0 1 .long false := ⟨_, _, _, "ProbeRacks$Held", tyX0, rfl, by decide, zu_X0, Or.inr ⟨rfl, by decide +kernel⟩, Or.inl rfl, tyX0_ok, nmX0, rfl, rfl, fun h => by cases h⟩
theorem zf_X0_23_0 : zf RX0 23 0 2 := ⟨_, _, _, "ProbeRacks$Held", rfl, by decide, zu_X0, Or.inl (zw_in 64 (by decide +kernel) (by decide +kernel)), Or.inl rfl⟩
theorem zfw_X0_23_0 : zfw RX0 23 0 2 (.object "ProbeRacks$Thing") false := ⟨_, _, _, "ProbeRacks$Held", tyX0, rfl, by decide, zu_X0, Or.inl (zw_in 64 (by decide +kernel) (by decide +kernel)), Or.inl rfl, tyX0_ok, nmX0, rfl, rfl, fun h => by cases h⟩
theorem zf_X7_51_0 : zf RX7 51 0 2 := ⟨_, _, _, "ProbeRacks$Held", rfl, by decide, zu_X0, Or.inr (by decide +kernel), Or.inl rfl⟩
theorem zfw_X7_51_0 : zfw RX7 51 0 2 (.object "ProbeRacks$Thing") false := ⟨_, _, _, "ProbeRacks$Held", tyX0, rfl, by decide, zu_X0, Or.inr ⟨rfl, by decide +kernel⟩, Or.inl rfl, tyX0_ok, nmX0, rfl, rfl, fun h => by cases h⟩
theorem zf_X4_9_3 : zf RX4 9 3 0 := ⟨_, _, _, "ProbeRacks$Step", rfl, by decide, zu_X4, Or.inl (zw_in 80 (by decide +kernel) (by decide +kernel)), Or.inl rfl⟩
theorem zfw_X4_9_3 : zfw RX4 9 3 0 .int false := ⟨_, _, _, "ProbeRacks$Step", tyX4, rfl, by decide, zu_X4, Or.inl (zw_in 80 (by decide +kernel) (by decide +kernel)), Or.inl rfl, tyX4_ok, nmX4, rfl, rfl, fun h => by cases h⟩
theorem zf_X7_197_3 : zf RX7 197 3 0 := ⟨_, _, _, "ProbeRacks$Step", rfl, by decide, zu_X4, Or.inr (by decide +kernel), Or.inl rfl⟩
theorem zfw_X7_197_3 : zfw RX7 197 3 0 .int false := ⟨_, _, _, "ProbeRacks$Step", tyX4, rfl, by decide, zu_X4, Or.inr ⟨rfl, by decide +kernel⟩, Or.inl rfl, tyX4_ok, nmX4, rfl, rfl, fun h => by cases h⟩
theorem zf_X4_15_3 : zf RX4 15 3 1 := ⟨_, _, _, "ProbeRacks$Step", rfl, by decide, zu_X4, Or.inl (zw_in 82 (by decide +kernel) (by decide +kernel)), Or.inl rfl⟩
theorem zfw_X4_15_3 : zfw RX4 15 3 1 .int false := ⟨_, _, _, "ProbeRacks$Step", tyX4, rfl, by decide, zu_X4, Or.inl (zw_in 82 (by decide +kernel) (by decide +kernel)), Or.inl rfl, tyX4_ok, nmX4, rfl, rfl, fun h => by cases h⟩
theorem zf_X7_194_3 : zf RX7 194 3 1 := ⟨_, _, _, "ProbeRacks$Step", rfl, by decide, zu_X4, Or.inr (by decide +kernel), Or.inl rfl⟩
theorem zfw_X7_194_3 : zfw RX7 194 3 1 .int false := ⟨_, _, _, "ProbeRacks$Step", tyX4, rfl, by decide, zu_X4, Or.inr ⟨rfl, by decide +kernel⟩, Or.inl rfl, tyX4_ok, nmX4, rfl, rfl, fun h => by cases h⟩
theorem zf_X4_18_3 : zf RX4 18 3 2 := ⟨_, _, _, "ProbeRacks$Step", rfl, by decide, zu_X4, Or.inl (zw_in 84 (by decide +kernel) (by decide +kernel)), Or.inl rfl⟩
theorem zfw_X4_18_3 : zfw RX4 18 3 2 .int false := ⟨_, _, _, "ProbeRacks$Step", tyX4, rfl, by decide, zu_X4, Or.inl (zw_in 84 (by decide +kernel) (by decide +kernel)), Or.inl rfl, tyX4_ok, nmX4, rfl, rfl, fun h => by cases h⟩
theorem zf_X7_200_3 : zf RX7 200 3 2 := ⟨_, _, _, "ProbeRacks$Step", rfl, by decide, zu_X4, Or.inr (by decide +kernel), Or.inl rfl⟩
theorem zfw_X7_200_3 : zfw RX7 200 3 2 .int false := ⟨_, _, _, "ProbeRacks$Step", tyX4, rfl, by decide, zu_X4, Or.inr ⟨rfl, by decide +kernel⟩, Or.inl rfl, tyX4_ok, nmX4, rfl, rfl, fun h => by cases h⟩
theorem zf_X4_21_3 : zf RX4 21 3 3 := ⟨_, _, _, "ProbeRacks$Step", rfl, by decide, zu_X4, Or.inl (zw_in 86 (by decide +kernel) (by decide +kernel)), Or.inl rfl⟩
theorem zfw_X4_21_3 : zfw RX4 21 3 3 .int false := ⟨_, _, _, "ProbeRacks$Step", tyX4, rfl, by decide, zu_X4, Or.inl (zw_in 86 (by decide +kernel) (by decide +kernel)), Or.inl rfl, tyX4_ok, nmX4, rfl, rfl, fun h => by cases h⟩
theorem zf_X7_206_3 : zf RX7 206 3 3 := ⟨_, _, _, "ProbeRacks$Step", rfl, by decide, zu_X4, Or.inr (by decide +kernel), Or.inl rfl⟩
theorem zfw_X7_206_3 : zfw RX7 206 3 3 .int false := ⟨_, _, _, "ProbeRacks$Step", tyX4, rfl, by decide, zu_X4, Or.inr ⟨rfl, by decide +kernel⟩, Or.inl rfl, tyX4_ok, nmX4, rfl, rfl, fun h => by cases h⟩
theorem zf_X4_24_3 : zf RX4 24 3 4 := ⟨_, _, _, "ProbeRacks$Step", rfl, by decide, zu_X4, Or.inl (zw_in 88 (by decide +kernel) (by decide +kernel)), Or.inl rfl⟩
theorem zfw_X4_24_3 : zfw RX4 24 3 4 .int false := ⟨_, _, _, "ProbeRacks$Step", tyX4, rfl, by decide, zu_X4, Or.inl (zw_in 88 (by decide +kernel) (by decide +kernel)), Or.inl rfl, tyX4_ok, nmX4, rfl, rfl, fun h => by cases h⟩
theorem zf_X7_203_3 : zf RX7 203 3 4 := ⟨_, _, _, "ProbeRacks$Step", rfl, by decide, zu_X4, Or.inr (by decide +kernel), Or.inl rfl⟩
theorem zfw_X7_203_3 : zfw RX7 203 3 4 .int false := ⟨_, _, _, "ProbeRacks$Step", tyX4, rfl, by decide, zu_X4, Or.inr ⟨rfl, by decide +kernel⟩, Or.inl rfl, tyX4_ok, nmX4, rfl, rfl, fun h => by cases h⟩
theorem zf_X4_27_3 : zf RX4 27 3 5 := ⟨_, _, _, "ProbeRacks$Step", rfl, by decide, zu_X4, Or.inl (zw_in 90 (by decide +kernel) (by decide +kernel)), Or.inl rfl⟩
theorem zfw_X4_27_3 : zfw RX4 27 3 5 .int false := ⟨_, _, _, "ProbeRacks$Step", tyX4, rfl, by decide, zu_X4, Or.inl (zw_in 90 (by decide +kernel) (by decide +kernel)), Or.inl rfl, tyX4_ok, nmX4, rfl, rfl, fun h => by cases h⟩
theorem zf_X7_145_3 : zf RX7 145 3 5 := ⟨_, _, _, "ProbeRacks$Step", rfl, by decide, zu_X4, Or.inr (by decide +kernel), Or.inl rfl⟩
theorem zfw_X7_145_3 : zfw RX7 145 3 5 .int false := ⟨_, _, _, "ProbeRacks$Step", tyX4, rfl, by decide, zu_X4, Or.inr ⟨rfl, by decide +kernel⟩, Or.inl rfl, tyX4_ok, nmX4, rfl, rfl, fun h => by cases h⟩
theorem zf_X7_11_5 : zf RX7 11 5 0 := ⟨_, _, _, "ProbeRacks", rfl, by decide, zu_X7, Or.inl (zw_in 105 (by decide +kernel) (by decide +kernel)), Or.inl rfl⟩
theorem zfw_X7_11_5 : zfw RX7 11 5 0 (.array (.object "ProbeRacks$Thing")) true := ⟨_, _, _, "ProbeRacks", tyX7, rfl, by decide, zu_X7, Or.inl (zw_in 105 (by decide +kernel) (by decide +kernel)), Or.inl rfl, tyX7_ok, nmX7, rfl, rfl, fun _ => rfl⟩
theorem zf_X7_18_5 : zf RX7 18 5 1 := ⟨_, _, _, "ProbeRacks", rfl, by decide, zu_X7, Or.inl (zw_in 106 (by decide +kernel) (by decide +kernel)), Or.inl rfl⟩
theorem zfw_X7_18_5 : zfw RX7 18 5 1 (.object "ProbeRacks$Held") true := ⟨_, _, _, "ProbeRacks", tyX7, rfl, by decide, zu_X7, Or.inl (zw_in 106 (by decide +kernel) (by decide +kernel)), Or.inl rfl, tyX7_ok, nmX7, rfl, rfl, fun _ => rfl⟩
theorem zf_X7_22_5 : zf RX7 22 5 2 := ⟨_, _, _, "ProbeRacks", rfl, by decide, zu_X7, Or.inl (zw_in 107 (by decide +kernel) (by decide +kernel)), Or.inl rfl⟩
theorem zfw_X7_22_5 : zfw RX7 22 5 2 (.object "ProbeRacks$Held") true := ⟨_, _, _, "ProbeRacks", tyX7, rfl, by decide, zu_X7, Or.inl (zw_in 107 (by decide +kernel) (by decide +kernel)), Or.inl rfl, tyX7_ok, nmX7, rfl, rfl, fun _ => rfl⟩
theorem zf_X7_27_5 : zf RX7 27 5 3 := ⟨_, _, _, "ProbeRacks", rfl, by decide, zu_X7, Or.inl (zw_in 108 (by decide +kernel) (by decide +kernel)), Or.inl rfl⟩
theorem zfw_X7_27_5 : zfw RX7 27 5 3 (.array (.object "ProbeRacks$Step")) true := ⟨_, _, _, "ProbeRacks", tyX7, rfl, by decide, zu_X7, Or.inl (zw_in 108 (by decide +kernel) (by decide +kernel)), Or.inl rfl, tyX7_ok, nmX7, rfl, rfl, fun _ => rfl⟩
theorem zf_X7_32_5 : zf RX7 32 5 4 := ⟨_, _, _, "ProbeRacks", rfl, by decide, zu_X7, Or.inl (zw_in 109 (by decide +kernel) (by decide +kernel)), Or.inl rfl⟩
theorem zfw_X7_32_5 : zfw RX7 32 5 4 (.array .int) true := ⟨_, _, _, "ProbeRacks", tyX7, rfl, by decide, zu_X7, Or.inl (zw_in 109 (by decide +kernel) (by decide +kernel)), Or.inl rfl, tyX7_ok, nmX7, rfl, rfl, fun _ => rfl⟩
theorem zf_X7_131_5 : zf RX7 131 5 5 := ⟨_, _, _, "ProbeRacks", rfl, by decide, zu_X7, Or.inl (zw_in 110 (by decide +kernel) (by decide +kernel)), Or.inl rfl⟩
theorem zfw_X7_131_5 : zfw RX7 131 5 5 .int false := ⟨_, _, _, "ProbeRacks", tyX7, rfl, by decide, zu_X7, Or.inl (zw_in 110 (by decide +kernel) (by decide +kernel)), Or.inl rfl, tyX7_ok, nmX7, rfl, rfl, fun h => by cases h⟩
theorem zf_X7_59_5 : zf RX7 59 5 6 := ⟨_, _, _, "ProbeRacks", rfl, by decide, zu_X7, Or.inl (zw_in 111 (by decide +kernel) (by decide +kernel)), Or.inl rfl⟩
theorem zfw_X7_59_5 : zfw RX7 59 5 6 .int false := ⟨_, _, _, "ProbeRacks", tyX7, rfl, by decide, zu_X7, Or.inl (zw_in 111 (by decide +kernel) (by decide +kernel)), Or.inl rfl, tyX7_ok, nmX7, rfl, rfl, fun h => by cases h⟩
theorem zf_X7_148_5 : zf RX7 148 5 7 := ⟨_, _, _, "ProbeRacks", rfl, by decide, zu_X7, Or.inl (zw_in 112 (by decide +kernel) (by decide +kernel)), Or.inl rfl⟩
theorem zfw_X7_148_5 : zfw RX7 148 5 7 .int false := ⟨_, _, _, "ProbeRacks", tyX7, rfl, by decide, zu_X7, Or.inl (zw_in 112 (by decide +kernel) (by decide +kernel)), Or.inl rfl, tyX7_ok, nmX7, rfl, rfl, fun h => by cases h⟩
theorem zf_X1_7_1 : zf RX1 7 1 2 := ⟨_, _, _, "ProbeRacks$NumberRow", rfl, by decide, zu_X1, Or.inl (zw_in 153 (by decide +kernel) (by decide +kernel)), Or.inl rfl⟩
theorem zfw_X1_7_1 : zfw RX1 7 1 2 (.array .long) true := ⟨_, _, _, "ProbeRacks$NumberRow", tyX1, rfl, by decide, zu_X1, Or.inl (zw_in 153 (by decide +kernel) (by decide +kernel)), Or.inl rfl, tyX1_ok, nmX1, rfl, rfl, fun _ => rfl⟩
theorem zf_X7_165_1 : zf RX7 165 1 2 := ⟨_, _, _, "ProbeRacks$NumberRow", rfl, by decide, zu_X1, Or.inr (by decide +kernel), Or.inl rfl⟩
theorem zf_X3_7_1 : zf RX3 7 1 0 := ⟨_, _, _, "ProbeRacks$Row", rfl, by decide, zu_X1, Or.inl (zw_in 155 (by decide +kernel) (by decide +kernel)), Or.inl rfl⟩
theorem zfw_X3_7_1 : zfw RX3 7 1 0 .int true := ⟨_, _, _, "ProbeRacks$Row", tyX1, rfl, by decide, zu_X1, Or.inl (zw_in 155 (by decide +kernel) (by decide +kernel)), Or.inl rfl, tyX1_ok, nmX1, rfl, rfl, fun _ => rfl⟩
theorem zf_X3_7_4 : zf RX3 7 4 0 := ⟨_, _, _, "ProbeRacks$Row", rfl, by decide, zu_X6, Or.inl (zw_in 155 (by decide +kernel) (by decide +kernel)), Or.inl rfl⟩
theorem zfw_X3_7_4 : zfw RX3 7 4 0 .int true := ⟨_, _, _, "ProbeRacks$Row", tyX6, rfl, by decide, zu_X6, Or.inl (zw_in 155 (by decide +kernel) (by decide +kernel)), Or.inl rfl, tyX6_ok, nmX6, rfl, rfl, fun _ => rfl⟩
theorem zf_X7_153_1 : zf RX7 153 1 0 := ⟨_, _, _, "ProbeRacks$Row", rfl, by decide, zu_X1, Or.inl (zw_in 156 (by decide +kernel) (by decide +kernel)), Or.inl rfl⟩
theorem zf_X7_153_4 : zf RX7 153 4 0 := ⟨_, _, _, "ProbeRacks$Row", rfl, by decide, zu_X6, Or.inl (zw_in 156 (by decide +kernel) (by decide +kernel)), Or.inl rfl⟩
theorem zf_X7_164_1 : zf RX7 164 1 0 := ⟨_, _, _, "ProbeRacks$NumberRow", rfl, by decide, zu_X1, Or.inl (zw_in 157 (by decide +kernel) (by decide +kernel)), Or.inr (zw_in 158 (by decide +kernel) (by decide +kernel))⟩
theorem zf_X7_181_4 : zf RX7 181 4 0 := ⟨_, _, _, "ProbeRacks$ThingRow", rfl, by decide, zu_X6, Or.inl (zw_in 159 (by decide +kernel) (by decide +kernel)), Or.inr (zw_in 160 (by decide +kernel) (by decide +kernel))⟩
theorem zf_X3_13_1 : zf RX3 13 1 1 := ⟨_, _, _, "ProbeRacks$Row", rfl, by decide, zu_X1, Or.inl (zw_in 161 (by decide +kernel) (by decide +kernel)), Or.inl rfl⟩
theorem zfw_X3_13_1 : zfw RX3 13 1 1 .int true := ⟨_, _, _, "ProbeRacks$Row", tyX1, rfl, by decide, zu_X1, Or.inl (zw_in 161 (by decide +kernel) (by decide +kernel)), Or.inl rfl, tyX1_ok, nmX1, rfl, rfl, fun _ => rfl⟩
theorem zf_X3_13_4 : zf RX3 13 4 1 := ⟨_, _, _, "ProbeRacks$Row", rfl, by decide, zu_X6, Or.inl (zw_in 161 (by decide +kernel) (by decide +kernel)), Or.inl rfl⟩
theorem zfw_X3_13_4 : zfw RX3 13 4 1 .int true := ⟨_, _, _, "ProbeRacks$Row", tyX6, rfl, by decide, zu_X6, Or.inl (zw_in 161 (by decide +kernel) (by decide +kernel)), Or.inl rfl, tyX6_ok, nmX6, rfl, rfl, fun _ => rfl⟩
theorem zf_X0_38_1 : zf RX0 38 1 1 := ⟨_, _, _, "ProbeRacks$Row", rfl, by decide, zu_X1, Or.inl (zw_in 162 (by decide +kernel) (by decide +kernel)), Or.inl rfl⟩
theorem zf_X0_38_4 : zf RX0 38 4 1 := ⟨_, _, _, "ProbeRacks$Row", rfl, by decide, zu_X6, Or.inl (zw_in 162 (by decide +kernel) (by decide +kernel)), Or.inl rfl⟩
theorem zf_X7_161_1 : zf RX7 161 1 1 := ⟨_, _, _, "ProbeRacks$Row", rfl, by decide, zu_X1, Or.inl (zw_in 163 (by decide +kernel) (by decide +kernel)), Or.inl rfl⟩
theorem zf_X7_161_4 : zf RX7 161 4 1 := ⟨_, _, _, "ProbeRacks$Row", rfl, by decide, zu_X6, Or.inl (zw_in 163 (by decide +kernel) (by decide +kernel)), Or.inl rfl⟩
theorem zf_X7_180_4 : zf RX7 180 4 1 := ⟨_, _, _, "ProbeRacks$ThingRow", rfl, by decide, zu_X6, Or.inl (zw_in 164 (by decide +kernel) (by decide +kernel)), Or.inr (zw_in 165 (by decide +kernel) (by decide +kernel))⟩
theorem zf_X7_186_1 : zf RX7 186 1 1 := ⟨_, _, _, "ProbeRacks$NumberRow", rfl, by decide, zu_X1, Or.inl (zw_in 166 (by decide +kernel) (by decide +kernel)), Or.inr (zw_in 167 (by decide +kernel) (by decide +kernel))⟩
theorem zf_X6_9_4 : zf RX6 9 4 2 := ⟨_, _, _, "ProbeRacks$ThingRow", rfl, by decide, zu_X6, Or.inl (zw_in 183 (by decide +kernel) (by decide +kernel)), Or.inl rfl⟩
theorem zfw_X6_9_4 : zfw RX6 9 4 2 (.array (.object "ProbeRacks$Thing")) true := ⟨_, _, _, "ProbeRacks$ThingRow", tyX6, rfl, by decide, zu_X6, Or.inl (zw_in 183 (by decide +kernel) (by decide +kernel)), Or.inl rfl, tyX6_ok, nmX6, rfl, rfl, fun _ => rfl⟩
theorem zf_X7_169_4 : zf RX7 169 4 2 := ⟨_, _, _, "ProbeRacks$ThingRow", rfl, by decide, zu_X6, Or.inr (by decide +kernel), Or.inl rfl⟩
theorem zf_X2_7_2 : zf RX2 7 2 0 := ⟨_, _, _, "ProbeRacks$Probe", rfl, by decide, zu_X2, Or.inl (zw_in 223 (by decide +kernel) (by decide +kernel)), Or.inl rfl⟩
theorem zfw_X2_7_2 : zfw RX2 7 2 0 .int true := ⟨_, _, _, "ProbeRacks$Probe", tyX2, rfl, by decide, zu_X2, Or.inl (zw_in 223 (by decide +kernel) (by decide +kernel)), Or.inl rfl, tyX2_ok, nmX2, rfl, rfl, fun _ => rfl⟩
theorem zf_X0_33_2 : zf RX0 33 2 0 := ⟨_, _, _, "ProbeRacks$Probe", rfl, by decide, zu_X2, Or.inr (by decide +kernel), Or.inl rfl⟩
theorem zf_X2_13_2 : zf RX2 13 2 1 := ⟨_, _, _, "ProbeRacks$Probe", rfl, by decide, zu_X2, Or.inl (zw_in 225 (by decide +kernel) (by decide +kernel)), Or.inl rfl⟩
theorem zfw_X2_13_2 : zfw RX2 13 2 1 .boolean true := ⟨_, _, _, "ProbeRacks$Probe", tyX2, rfl, by decide, zu_X2, Or.inl (zw_in 225 (by decide +kernel) (by decide +kernel)), Or.inl rfl, tyX2_ok, nmX2, rfl, rfl, fun _ => rfl⟩
theorem zf_X0_29_2 : zf RX0 29 2 1 := ⟨_, _, _, "ProbeRacks$Probe", rfl, by decide, zu_X2, Or.inr (by decide +kernel), Or.inl rfl⟩
theorem zf_X7_154_2 : zf RX7 154 2 1 := ⟨_, _, _, "ProbeRacks$Probe", rfl, by decide, zu_X2, Or.inr (by decide +kernel), Or.inl rfl⟩
theorem zg_goes : Cond.fieldLink RX7 158 "ProbeRacks" "GOES_INTO" "[I" ∈ zw := (zw_in 288 (by decide +kernel) (by decide +kernel))
theorem zf_X8_7_6 : zf RX8 7 6 0 := ⟨_, _, _, "ProbeRacksModel", rfl, by decide, zu_X8, Or.inl (zw_in 414 (by decide +kernel) (by decide +kernel)), Or.inl rfl⟩
theorem zfw_X8_7_6 : zfw RX8 7 6 0 (.array .int) true := ⟨_, _, _, "ProbeRacksModel", tyX8, rfl, by decide, zu_X8, Or.inl (zw_in 414 (by decide +kernel) (by decide +kernel)), Or.inl rfl, tyX8_ok, nmX8, rfl, rfl, fun _ => rfl⟩
theorem zf_X8_13_6 : zf RX8 13 6 1 := ⟨_, _, _, "ProbeRacksModel", rfl, by decide, zu_X8, Or.inl (zw_in 415 (by decide +kernel) (by decide +kernel)), Or.inl rfl⟩
theorem zfw_X8_13_6 : zfw RX8 13 6 1 (.array .int) true := ⟨_, _, _, "ProbeRacksModel", tyX8, rfl, by decide, zu_X8, Or.inl (zw_in 415 (by decide +kernel) (by decide +kernel)), Or.inl rfl, tyX8_ok, nmX8, rfl, rfl, fun _ => rfl⟩
theorem zf_X8_69_6 : zf RX8 69 6 2 := ⟨_, _, _, "ProbeRacksModel", rfl, by decide, zu_X8, Or.inl (zw_in 416 (by decide +kernel) (by decide +kernel)), Or.inl rfl⟩
theorem zfw_X8_69_6 : zfw RX8 69 6 2 .int false := ⟨_, _, _, "ProbeRacksModel", tyX8, rfl, by decide, zu_X8, Or.inl (zw_in 416 (by decide +kernel) (by decide +kernel)), Or.inl rfl, tyX8_ok, nmX8, rfl, rfl, fun h => by cases h⟩
theorem zf_X8_75_6 : zf RX8 75 6 3 := ⟨_, _, _, "ProbeRacksModel", rfl, by decide, zu_X8, Or.inl (zw_in 417 (by decide +kernel) (by decide +kernel)), Or.inl rfl⟩
theorem zfw_X8_75_6 : zfw RX8 75 6 3 .int false := ⟨_, _, _, "ProbeRacksModel", tyX8, rfl, by decide, zu_X8, Or.inl (zw_in 417 (by decide +kernel) (by decide +kernel)), Or.inl rfl, tyX8_ok, nmX8, rfl, rfl, fun h => by cases h⟩
theorem zf_X8_78_6 : zf RX8 78 6 4 := ⟨_, _, _, "ProbeRacksModel", rfl, by decide, zu_X8, Or.inl (zw_in 418 (by decide +kernel) (by decide +kernel)), Or.inl rfl⟩
theorem zfw_X8_78_6 : zfw RX8 78 6 4 .long false := ⟨_, _, _, "ProbeRacksModel", tyX8, rfl, by decide, zu_X8, Or.inl (zw_in 418 (by decide +kernel) (by decide +kernel)), Or.inl rfl, tyX8_ok, nmX8, rfl, rfl, fun h => by cases h⟩
theorem zf_X8_72_6 : zf RX8 72 6 5 := ⟨_, _, _, "ProbeRacksModel", rfl, by decide, zu_X8, Or.inl (zw_in 419 (by decide +kernel) (by decide +kernel)), Or.inl rfl⟩
theorem zfw_X8_72_6 : zfw RX8 72 6 5 .int false := ⟨_, _, _, "ProbeRacksModel", tyX8, rfl, by decide, zu_X8, Or.inl (zw_in 419 (by decide +kernel) (by decide +kernel)), Or.inl rfl, tyX8_ok, nmX8, rfl, rfl, fun h => by cases h⟩
theorem zf_X8_92_6 : zf RX8 92 6 6 := ⟨_, _, _, "ProbeRacksModel", rfl, by decide, zu_X8, Or.inl (zw_in 420 (by decide +kernel) (by decide +kernel)), Or.inl rfl⟩
theorem zfw_X8_92_6 : zfw RX8 92 6 6 .int false := ⟨_, _, _, "ProbeRacksModel", tyX8, rfl, by decide, zu_X8, Or.inl (zw_in 420 (by decide +kernel) (by decide +kernel)), Or.inl rfl, tyX8_ok, nmX8, rfl, rfl, fun h => by cases h⟩
theorem zf_X8_16_6 : zf RX8 16 6 7 := ⟨_, _, _, "ProbeRacksModel", rfl, by decide, zu_X8, Or.inl (zw_in 421 (by decide +kernel) (by decide +kernel)), Or.inl rfl⟩
theorem zfw_X8_16_6 : zfw RX8 16 6 7 (.array .boolean) true := ⟨_, _, _, "ProbeRacksModel", tyX8, rfl, by decide, zu_X8, Or.inl (zw_in 421 (by decide +kernel) (by decide +kernel)), Or.inl rfl, tyX8_ok, nmX8, rfl, rfl, fun _ => rfl⟩
theorem zf_X8_54_6 : zf RX8 54 6 8 := ⟨_, _, _, "ProbeRacksModel", rfl, by decide, zu_X8, Or.inl (zw_in 422 (by decide +kernel) (by decide +kernel)), Or.inl rfl⟩
theorem zfw_X8_54_6 : zfw RX8 54 6 8 .int false := ⟨_, _, _, "ProbeRacksModel", tyX8, rfl, by decide, zu_X8, Or.inl (zw_in 422 (by decide +kernel) (by decide +kernel)), Or.inl rfl, tyX8_ok, nmX8, rfl, rfl, fun h => by cases h⟩
theorem zf_X8_20_6 : zf RX8 20 6 9 := ⟨_, _, _, "ProbeRacksModel", rfl, by decide, zu_X8, Or.inl (zw_in 423 (by decide +kernel) (by decide +kernel)), Or.inl rfl⟩
theorem zfw_X8_20_6 : zfw RX8 20 6 9 (.array .int) true := ⟨_, _, _, "ProbeRacksModel", tyX8, rfl, by decide, zu_X8, Or.inl (zw_in 423 (by decide +kernel) (by decide +kernel)), Or.inl rfl, tyX8_ok, nmX8, rfl, rfl, fun _ => rfl⟩
theorem zf_X8_23_6 : zf RX8 23 6 10 := ⟨_, _, _, "ProbeRacksModel", rfl, by decide, zu_X8, Or.inl (zw_in 424 (by decide +kernel) (by decide +kernel)), Or.inl rfl⟩
theorem zfw_X8_23_6 : zfw RX8 23 6 10 (.array .int) true := ⟨_, _, _, "ProbeRacksModel", tyX8, rfl, by decide, zu_X8, Or.inl (zw_in 424 (by decide +kernel) (by decide +kernel)), Or.inl rfl, tyX8_ok, nmX8, rfl, rfl, fun _ => rfl⟩
theorem zf_X8_27_6 : zf RX8 27 6 11 := ⟨_, _, _, "ProbeRacksModel", rfl, by decide, zu_X8, Or.inl (zw_in 425 (by decide +kernel) (by decide +kernel)), Or.inl rfl⟩
theorem zfw_X8_27_6 : zfw RX8 27 6 11 (.array .long) true := ⟨_, _, _, "ProbeRacksModel", tyX8, rfl, by decide, zu_X8, Or.inl (zw_in 425 (by decide +kernel) (by decide +kernel)), Or.inl rfl, tyX8_ok, nmX8, rfl, rfl, fun _ => rfl⟩
theorem zf_X8_170_6 : zf RX8 170 6 12 := ⟨_, _, _, "ProbeRacksModel", rfl, by decide, zu_X8, Or.inl (zw_in 426 (by decide +kernel) (by decide +kernel)), Or.inl rfl⟩
theorem zfw_X8_170_6 : zfw RX8 170 6 12 .int false := ⟨_, _, _, "ProbeRacksModel", tyX8, rfl, by decide, zu_X8, Or.inl (zw_in 426 (by decide +kernel) (by decide +kernel)), Or.inl rfl, tyX8_ok, nmX8, rfl, rfl, fun h => by cases h⟩
theorem zf_X8_31_6 : zf RX8 31 6 13 := ⟨_, _, _, "ProbeRacksModel", rfl, by decide, zu_X8, Or.inl (zw_in 427 (by decide +kernel) (by decide +kernel)), Or.inl rfl⟩
theorem zfw_X8_31_6 : zfw RX8 31 6 13 (.array .int) true := ⟨_, _, _, "ProbeRacksModel", tyX8, rfl, by decide, zu_X8, Or.inl (zw_in 427 (by decide +kernel) (by decide +kernel)), Or.inl rfl, tyX8_ok, nmX8, rfl, rfl, fun _ => rfl⟩
theorem zf_X8_176_6 : zf RX8 176 6 14 := ⟨_, _, _, "ProbeRacksModel", rfl, by decide, zu_X8, Or.inl (zw_in 428 (by decide +kernel) (by decide +kernel)), Or.inl rfl⟩
theorem zfw_X8_176_6 : zfw RX8 176 6 14 .int false := ⟨_, _, _, "ProbeRacksModel", tyX8, rfl, by decide, zu_X8, Or.inl (zw_in 428 (by decide +kernel) (by decide +kernel)), Or.inl rfl, tyX8_ok, nmX8, rfl, rfl, fun h => by cases h⟩
theorem zf_X8_34_6 : zf RX8 34 6 15 := ⟨_, _, _, "ProbeRacksModel", rfl, by decide, zu_X8, Or.inl (zw_in 429 (by decide +kernel) (by decide +kernel)), Or.inl rfl⟩
theorem zfw_X8_34_6 : zfw RX8 34 6 15 (.array .int) true := ⟨_, _, _, "ProbeRacksModel", tyX8, rfl, by decide, zu_X8, Or.inl (zw_in 429 (by decide +kernel) (by decide +kernel)), Or.inl rfl, tyX8_ok, nmX8, rfl, rfl, fun _ => rfl⟩
theorem zf_X8_46_6 : zf RX8 46 6 16 := ⟨_, _, _, "ProbeRacksModel", rfl, by decide, zu_X8, Or.inl (zw_in 430 (by decide +kernel) (by decide +kernel)), Or.inl rfl⟩
theorem zfw_X8_46_6 : zfw RX8 46 6 16 .int false := ⟨_, _, _, "ProbeRacksModel", tyX8, rfl, by decide, zu_X8, Or.inl (zw_in 430 (by decide +kernel) (by decide +kernel)), Or.inl rfl, tyX8_ok, nmX8, rfl, rfl, fun h => by cases h⟩
theorem zf_X8_37_6 : zf RX8 37 6 17 := ⟨_, _, _, "ProbeRacksModel", rfl, by decide, zu_X8, Or.inl (zw_in 431 (by decide +kernel) (by decide +kernel)), Or.inl rfl⟩
theorem zfw_X8_37_6 : zfw RX8 37 6 17 (.array .int) true := ⟨_, _, _, "ProbeRacksModel", tyX8, rfl, by decide, zu_X8, Or.inl (zw_in 431 (by decide +kernel) (by decide +kernel)), Or.inl rfl, tyX8_ok, nmX8, rfl, rfl, fun _ => rfl⟩
theorem zf_X8_147_6 : zf RX8 147 6 18 := ⟨_, _, _, "ProbeRacksModel", rfl, by decide, zu_X8, Or.inl (zw_in 432 (by decide +kernel) (by decide +kernel)), Or.inl rfl⟩
theorem zfw_X8_147_6 : zfw RX8 147 6 18 .int false := ⟨_, _, _, "ProbeRacksModel", tyX8, rfl, by decide, zu_X8, Or.inl (zw_in 432 (by decide +kernel) (by decide +kernel)), Or.inl rfl, tyX8_ok, nmX8, rfl, rfl, fun h => by cases h⟩
theorem zf_X8_150_6 : zf RX8 150 6 19 := ⟨_, _, _, "ProbeRacksModel", rfl, by decide, zu_X8, Or.inl (zw_in 433 (by decide +kernel) (by decide +kernel)), Or.inl rfl⟩
theorem zfw_X8_150_6 : zfw RX8 150 6 19 .int false := ⟨_, _, _, "ProbeRacksModel", tyX8, rfl, by decide, zu_X8, Or.inl (zw_in 433 (by decide +kernel) (by decide +kernel)), Or.inl rfl, tyX8_ok, nmX8, rfl, rfl, fun h => by cases h⟩
theorem zk_L_7 : Cond.classLink RL 7 RX7 ∈ zw := (zw_in 44 (by decide +kernel) (by decide +kernel))
theorem zn_L_7 : zn RL 7 5 8 [.null, .null, .null, .null, .null, .int 0, .int 0, .int 0] := ⟨_, _, tyX7, rfl, zu_X7, tyX7_ok, zk_L_7, (zw_in 45 (by decide +kernel) (by decide +kernel)), (zw_in 35 (by decide +kernel) (by decide +kernel)), fun j hj => by rcases (show j = 0 ∨ j = 1 ∨ j = 2 ∨ j = 3 ∨ j = 4 ∨ j = 5 ∨ j = 6 ∨ j = 7 by omega) with rfl | rfl | rfl | rfl | rfl | rfl | rfl | rfl <;> rfl⟩
theorem zm_L_9 : zm RL 9 yX7_init cX7_init 2 none 0 := ⟨(zw_in 48 (by decide +kernel) (by decide +kernel)), Or.inl (zw_in 46 (by decide +kernel) (by decide +kernel)), (zw_in 35 (by decide +kernel) (by decide +kernel)), by decide +kernel, by decide⟩
theorem zkyX7_init : yX7_init.name = "<init>" ∧ Cond.instanceMethod yX7_init ∈ zw := ⟨rfl, (zw_in 47 (by decide +kernel) (by decide +kernel))⟩
theorem zo_X7_1 : Cond.methodLink RX7 1 objectInit ∈ zw := (zw_in 49 (by decide +kernel) (by decide +kernel))
theorem zk_X7_9 : Cond.classLink RX7 9 RX5 ∈ zw := (zw_in 52 (by decide +kernel) (by decide +kernel))
theorem zk_X7_15 : Cond.classLink RX7 15 RX0 ∈ zw := (zw_in 54 (by decide +kernel) (by decide +kernel))
theorem zn_X7_15 : zn RX7 15 0 3 [.int 0, .long 0, .null] := ⟨_, _, tyX0, rfl, zu_X0, tyX0_ok, zk_X7_15, (zw_in 55 (by decide +kernel) (by decide +kernel)), (zw_in 36 (by decide +kernel) (by decide +kernel)), fun j hj => by rcases (show j = 0 ∨ j = 1 ∨ j = 2 by omega) with rfl | rfl | rfl <;> rfl⟩
theorem zm_X7_17 : zm RX7 17 yX0_init cX0_init 1 none 0 := ⟨(zw_in 58 (by decide +kernel) (by decide +kernel)), Or.inr (by decide +kernel), (zw_in 36 (by decide +kernel) (by decide +kernel)), by decide +kernel, by decide⟩
theorem zkyX0_init : yX0_init.name = "<init>" ∧ Cond.instanceMethod yX0_init ∈ zw := ⟨rfl, (zw_in 57 (by decide +kernel) (by decide +kernel))⟩
theorem zo_X0_3 : Cond.methodLink RX0 3 objectInit ∈ zw := (zw_in 59 (by decide +kernel) (by decide +kernel))
theorem zk_X7_25 : Cond.classLink RX7 25 RX4 ∈ zw := (zw_in 73 (by decide +kernel) (by decide +kernel))
theorem zn_X7_25 : zn RX7 25 3 6 [.int 0, .int 0, .int 0, .int 0, .int 0, .int 0] := ⟨_, _, tyX4, rfl, zu_X4, tyX4_ok, zk_X7_25, (zw_in 75 (by decide +kernel) (by decide +kernel)), (zw_in 37 (by decide +kernel) (by decide +kernel)), fun j hj => by rcases (show j = 0 ∨ j = 1 ∨ j = 2 ∨ j = 3 ∨ j = 4 ∨ j = 5 by omega) with rfl | rfl | rfl | rfl | rfl | rfl <;> rfl⟩
theorem zm_X7_31 : zm RX7 31 yX4_init cX4_init 1 none 0 := ⟨(zw_in 78 (by decide +kernel) (by decide +kernel)), Or.inr (by decide +kernel), (zw_in 37 (by decide +kernel) (by decide +kernel)), by decide +kernel, by decide⟩
theorem zkyX4_init : yX4_init.name = "<init>" ∧ Cond.instanceMethod yX4_init ∈ zw := ⟨rfl, (zw_in 77 (by decide +kernel) (by decide +kernel))⟩
theorem zo_X4_3 : Cond.methodLink RX4 3 objectInit ∈ zw := (zw_in 79 (by decide +kernel) (by decide +kernel))
theorem za_int : Cond.arrayClass .int ∈ zw := (zw_in 130 (by decide +kernel) (by decide +kernel))
theorem zm_L_13 : zm RL 13 yX7_rack cX7_rack 4 (some .int) 3 := ⟨(zw_in 134 (by decide +kernel) (by decide +kernel)), Or.inl (zw_in 131 (by decide +kernel) (by decide +kernel)), (zw_in 35 (by decide +kernel) (by decide +kernel)), by decide +kernel, by decide⟩
theorem zkyX7_rack : Cond.instanceMethod yX7_rack ∈ zw ∧ Cond.selects yX7_rack.cls yX7_rack yX7_rack ∈ zw := ⟨(zw_in 132 (by decide +kernel) (by decide +kernel)), (zw_in 133 (by decide +kernel) (by decide +kernel))⟩
theorem zm_X7_36 : zm RX7 36 yX7_isRack cX7_isRack 1 (some .boolean) 1 := ⟨(zw_in 137 (by decide +kernel) (by decide +kernel)), Or.inl (zw_in 135 (by decide +kernel) (by decide +kernel)), (zw_in 35 (by decide +kernel) (by decide +kernel)), by decide +kernel, by decide⟩
theorem zkyX7_isRack : Cond.static yX7_isRack ∈ zw := (zw_in 136 (by decide +kernel) (by decide +kernel))
theorem zm_X7_40 : zm RX7 40 yX7_isNumberKind cX7_isNumberKind 1 (some .boolean) 1 := ⟨(zw_in 140 (by decide +kernel) (by decide +kernel)), Or.inl (zw_in 138 (by decide +kernel) (by decide +kernel)), (zw_in 35 (by decide +kernel) (by decide +kernel)), by decide +kernel, by decide⟩
theorem zkyX7_isNumberKind : Cond.static yX7_isNumberKind ∈ zw := (zw_in 139 (by decide +kernel) (by decide +kernel))
theorem zk_X7_43 : Cond.classLink RX7 43 RX1 ∈ zw := (zw_in 141 (by decide +kernel) (by decide +kernel))
theorem zn_X7_43 : zn RX7 43 1 3 [.int 0, .int 0, .null] := ⟨_, _, tyX1, rfl, zu_X1, tyX1_ok, zk_X7_43, (zw_in 142 (by decide +kernel) (by decide +kernel)), (zw_in 41 (by decide +kernel) (by decide +kernel)), fun j hj => by rcases (show j = 0 ∨ j = 1 ∨ j = 2 by omega) with rfl | rfl | rfl <;> rfl⟩
theorem zm_X7_45 : zm RX7 45 yX1_init cX1_init 3 none 2 := ⟨(zw_in 145 (by decide +kernel) (by decide +kernel)), Or.inr (by decide +kernel), (zw_in 41 (by decide +kernel) (by decide +kernel)), by decide +kernel, by decide⟩
theorem zkyX1_init : yX1_init.name = "<init>" ∧ Cond.instanceMethod yX1_init ∈ zw := ⟨rfl, (zw_in 144 (by decide +kernel) (by decide +kernel))⟩
theorem zm_X1_1 : zm RX1 1 yX3_init cX3_init 3 none 2 := ⟨(zw_in 148 (by decide +kernel) (by decide +kernel)), Or.inl (zw_in 146 (by decide +kernel) (by decide +kernel)), (zw_in 40 (by decide +kernel) (by decide +kernel)), by decide +kernel, by decide⟩
theorem zkyX3_init : yX3_init.name = "<init>" ∧ Cond.instanceMethod yX3_init ∈ zw := ⟨rfl, (zw_in 147 (by decide +kernel) (by decide +kernel))⟩
theorem zm_X3_1 : zm RX3 1 yX5_init cX5_init 1 none 0 := ⟨(zw_in 151 (by decide +kernel) (by decide +kernel)), Or.inr (by decide +kernel), (zw_in 39 (by decide +kernel) (by decide +kernel)), by decide +kernel, by decide⟩
theorem zkyX5_init : yX5_init.name = "<init>" ∧ Cond.instanceMethod yX5_init ∈ zw := ⟨rfl, (zw_in 150 (by decide +kernel) (by decide +kernel))⟩
theorem zo_X5_1 : Cond.methodLink RX5 1 objectInit ∈ zw := (zw_in 152 (by decide +kernel) (by decide +kernel))
theorem za_long : Cond.arrayClass .long ∈ zw := (zw_in 175 (by decide +kernel) (by decide +kernel))
theorem zk_X7_48 : Cond.classLink RX7 48 RX6 ∈ zw := (zw_in 176 (by decide +kernel) (by decide +kernel))
theorem zn_X7_48 : zn RX7 48 4 3 [.int 0, .int 0, .null] := ⟨_, _, tyX6, rfl, zu_X6, tyX6_ok, zk_X7_48, (zw_in 177 (by decide +kernel) (by decide +kernel)), (zw_in 42 (by decide +kernel) (by decide +kernel)), fun j hj => by rcases (show j = 0 ∨ j = 1 ∨ j = 2 by omega) with rfl | rfl | rfl <;> rfl⟩
theorem zm_X7_50 : zm RX7 50 yX6_init cX6_init 3 none 2 := ⟨(zw_in 180 (by decide +kernel) (by decide +kernel)), Or.inr (by decide +kernel), (zw_in 42 (by decide +kernel) (by decide +kernel)), by decide +kernel, by decide⟩
theorem zkyX6_init : yX6_init.name = "<init>" ∧ Cond.instanceMethod yX6_init ∈ zw := ⟨rfl, (zw_in 179 (by decide +kernel) (by decide +kernel))⟩
theorem zm_X6_1 : zm RX6 1 yX3_init cX3_init 3 none 2 := ⟨(zw_in 148 (by decide +kernel) (by decide +kernel)), Or.inl (zw_in 181 (by decide +kernel) (by decide +kernel)), (zw_in 40 (by decide +kernel) (by decide +kernel)), by decide +kernel, by decide⟩
theorem zk_X6_7 : Cond.classLink RX6 7 RX5 ∈ zw := (zw_in 182 (by decide +kernel) (by decide +kernel))
theorem zm_L_18 : zm RL 18 yX7_hang cX7_hang 2 (some .int) 1 := ⟨(zw_in 193 (by decide +kernel) (by decide +kernel)), Or.inl (zw_in 190 (by decide +kernel) (by decide +kernel)), (zw_in 35 (by decide +kernel) (by decide +kernel)), by decide +kernel, by decide⟩
theorem zkyX7_hang : Cond.instanceMethod yX7_hang ∈ zw ∧ Cond.selects yX7_hang.cls yX7_hang yX7_hang ∈ zw := ⟨(zw_in 191 (by decide +kernel) (by decide +kernel)), (zw_in 192 (by decide +kernel) (by decide +kernel))⟩
theorem zm_L_23 : zm RL 23 yX7_share cX7_share 3 (some .int) 2 := ⟨(zw_in 197 (by decide +kernel) (by decide +kernel)), Or.inl (zw_in 194 (by decide +kernel) (by decide +kernel)), (zw_in 35 (by decide +kernel) (by decide +kernel)), by decide +kernel, by decide⟩
theorem zkyX7_share : Cond.instanceMethod yX7_share ∈ zw ∧ Cond.selects yX7_share.cls yX7_share yX7_share ∈ zw := ⟨(zw_in 195 (by decide +kernel) (by decide +kernel)), (zw_in 196 (by decide +kernel) (by decide +kernel))⟩
theorem zm_L_28 : zm RL 28 yX7_empty cX7_empty 2 (some .int) 1 := ⟨(zw_in 201 (by decide +kernel) (by decide +kernel)), Or.inl (zw_in 198 (by decide +kernel) (by decide +kernel)), (zw_in 35 (by decide +kernel) (by decide +kernel)), by decide +kernel, by decide⟩
theorem zkyX7_empty : Cond.instanceMethod yX7_empty ∈ zw ∧ Cond.selects yX7_empty.cls yX7_empty yX7_empty ∈ zw := ⟨(zw_in 199 (by decide +kernel) (by decide +kernel)), (zw_in 200 (by decide +kernel) (by decide +kernel))⟩
theorem zm_L_34 : zm RL 34 yX7_gauge cX7_gauge 4 (some .int) 2 := ⟨(zw_in 205 (by decide +kernel) (by decide +kernel)), Or.inl (zw_in 202 (by decide +kernel) (by decide +kernel)), (zw_in 35 (by decide +kernel) (by decide +kernel)), by decide +kernel, by decide⟩
theorem zkyX7_gauge : Cond.instanceMethod yX7_gauge ∈ zw ∧ Cond.selects yX7_gauge.cls yX7_gauge yX7_gauge ∈ zw := ⟨(zw_in 203 (by decide +kernel) (by decide +kernel)), (zw_in 204 (by decide +kernel) (by decide +kernel))⟩
theorem zm_X7_55 : zm RX7 55 yX0_holdNumber cX0_holdNumber 4 none 2 := ⟨(zw_in 209 (by decide +kernel) (by decide +kernel)), Or.inr (by decide +kernel), (zw_in 36 (by decide +kernel) (by decide +kernel)), by decide +kernel, by decide⟩
theorem zkyX0_holdNumber : Cond.instanceMethod yX0_holdNumber ∈ zw ∧ Cond.selects yX0_holdNumber.cls yX0_holdNumber yX0_holdNumber ∈ zw := ⟨(zw_in 208 (by decide +kernel) (by decide +kernel)), (zw_in 0 (by decide +kernel) (by decide +kernel))⟩
theorem zm_X0_15 : zm RX0 15 yX7_asKind cX7_asKind 3 (some .long) 2 := ⟨(zw_in 212 (by decide +kernel) (by decide +kernel)), Or.inr (by decide +kernel), (zw_in 35 (by decide +kernel) (by decide +kernel)), by decide +kernel, by decide⟩
theorem zkyX7_asKind : Cond.static yX7_asKind ∈ zw := (zw_in 211 (by decide +kernel) (by decide +kernel))
theorem zm_L_39 : zm RL 39 yX7_probe cX7_probe 2 (some .int) 1 := ⟨(zw_in 216 (by decide +kernel) (by decide +kernel)), Or.inl (zw_in 213 (by decide +kernel) (by decide +kernel)), (zw_in 35 (by decide +kernel) (by decide +kernel)), by decide +kernel, by decide⟩
theorem zkyX7_probe : Cond.instanceMethod yX7_probe ∈ zw ∧ Cond.selects yX7_probe.cls yX7_probe yX7_probe ∈ zw := ⟨(zw_in 214 (by decide +kernel) (by decide +kernel)), (zw_in 215 (by decide +kernel) (by decide +kernel))⟩
theorem zk_X7_63 : Cond.classLink RX7 63 RX2 ∈ zw := (zw_in 217 (by decide +kernel) (by decide +kernel))
theorem zn_X7_63 : zn RX7 63 2 2 [.int 0, .int 0] := ⟨_, _, tyX2, rfl, zu_X2, tyX2_ok, zk_X7_63, (zw_in 218 (by decide +kernel) (by decide +kernel)), (zw_in 43 (by decide +kernel) (by decide +kernel)), fun j hj => by rcases (show j = 0 ∨ j = 1 by omega) with rfl | rfl <;> rfl⟩
theorem zm_X7_65 : zm RX7 65 yX2_init cX2_init 3 none 2 := ⟨(zw_in 221 (by decide +kernel) (by decide +kernel)), Or.inr (by decide +kernel), (zw_in 43 (by decide +kernel) (by decide +kernel)), by decide +kernel, by decide⟩
theorem zkyX2_init : yX2_init.name = "<init>" ∧ Cond.instanceMethod yX2_init ∈ zw := ⟨rfl, (zw_in 220 (by decide +kernel) (by decide +kernel))⟩
theorem zm_X2_1 : zm RX2 1 yX5_init cX5_init 1 none 0 := ⟨(zw_in 151 (by decide +kernel) (by decide +kernel)), Or.inr (by decide +kernel), (zw_in 39 (by decide +kernel) (by decide +kernel)), by decide +kernel, by decide⟩
theorem zm_X7_68 : zm RX7 68 yX0_holdThing cX0_holdThing 4 none 1 := ⟨(zw_in 236 (by decide +kernel) (by decide +kernel)), Or.inr (by decide +kernel), (zw_in 36 (by decide +kernel) (by decide +kernel)), by decide +kernel, by decide⟩
theorem zkyX0_holdThing : Cond.instanceMethod yX0_holdThing ∈ zw ∧ Cond.selects yX0_holdThing.cls yX0_holdThing yX0_holdThing ∈ zw := ⟨(zw_in 235 (by decide +kernel) (by decide +kernel)), (zw_in 1 (by decide +kernel) (by decide +kernel))⟩
theorem zk_X0_27 : Cond.classLink RX0 27 RX2 ∈ zw := (zw_in 237 (by decide +kernel) (by decide +kernel))
theorem zn_X0_27 : zn RX0 27 2 2 [.int 0, .int 0] := ⟨_, _, tyX2, rfl, zu_X2, tyX2_ok, zk_X0_27, (zw_in 218 (by decide +kernel) (by decide +kernel)), (zw_in 43 (by decide +kernel) (by decide +kernel)), fun j hj => by rcases (show j = 0 ∨ j = 1 by omega) with rfl | rfl <;> rfl⟩
theorem zk_X0_36 : Cond.classLink RX0 36 RX3 ∈ zw := (zw_in 238 (by decide +kernel) (by decide +kernel))
theorem zm_L_44 : zm RL 44 yX7_line cX7_line 2 (some .int) 1 := ⟨(zw_in 242 (by decide +kernel) (by decide +kernel)), Or.inl (zw_in 239 (by decide +kernel) (by decide +kernel)), (zw_in 35 (by decide +kernel) (by decide +kernel)), by decide +kernel, by decide⟩
theorem zkyX7_line : Cond.instanceMethod yX7_line ∈ zw ∧ Cond.selects yX7_line.cls yX7_line yX7_line ∈ zw := ⟨(zw_in 240 (by decide +kernel) (by decide +kernel)), (zw_in 241 (by decide +kernel) (by decide +kernel))⟩
theorem zm_L_48 : zm RL 48 yX7_none cX7_none 1 (some .int) 0 := ⟨(zw_in 246 (by decide +kernel) (by decide +kernel)), Or.inl (zw_in 243 (by decide +kernel) (by decide +kernel)), (zw_in 35 (by decide +kernel) (by decide +kernel)), by decide +kernel, by decide⟩
theorem zkyX7_none : Cond.instanceMethod yX7_none ∈ zw ∧ Cond.selects yX7_none.cls yX7_none yX7_none ∈ zw := ⟨(zw_in 244 (by decide +kernel) (by decide +kernel)), (zw_in 245 (by decide +kernel) (by decide +kernel))⟩
theorem zm_L_53 : zm RL 53 yX7_get cX7_get 4 (some .int) 2 := ⟨(zw_in 250 (by decide +kernel) (by decide +kernel)), Or.inl (zw_in 247 (by decide +kernel) (by decide +kernel)), (zw_in 35 (by decide +kernel) (by decide +kernel)), by decide +kernel, by decide⟩
theorem zkyX7_get : Cond.instanceMethod yX7_get ∈ zw ∧ Cond.selects yX7_get.cls yX7_get yX7_get ∈ zw := ⟨(zw_in 248 (by decide +kernel) (by decide +kernel)), (zw_in 249 (by decide +kernel) (by decide +kernel))⟩
theorem zm_X7_72 : zm RX7 72 yX7_getPlace cX7_getPlace 6 (some .int) 3 := ⟨(zw_in 253 (by decide +kernel) (by decide +kernel)), Or.inl (zw_in 251 (by decide +kernel) (by decide +kernel)), (zw_in 35 (by decide +kernel) (by decide +kernel)), by decide +kernel, by decide⟩
theorem zkyX7_getPlace : Cond.static yX7_getPlace ∈ zw := (zw_in 252 (by decide +kernel) (by decide +kernel))
theorem zm_X7_121 : zm RX7 121 yX7_placeFault cX7_placeFault 3 (some .int) 2 := ⟨(zw_in 256 (by decide +kernel) (by decide +kernel)), Or.inl (zw_in 254 (by decide +kernel) (by decide +kernel)), (zw_in 35 (by decide +kernel) (by decide +kernel)), by decide +kernel, by decide⟩
theorem zkyX7_placeFault : Cond.static yX7_placeFault ∈ zw := (zw_in 255 (by decide +kernel) (by decide +kernel))
theorem zm_X7_98 : zm RX7 98 yX7_rowFault cX7_rowFault 1 (some .int) 1 := ⟨(zw_in 259 (by decide +kernel) (by decide +kernel)), Or.inl (zw_in 257 (by decide +kernel) (by decide +kernel)), (zw_in 35 (by decide +kernel) (by decide +kernel)), by decide +kernel, by decide⟩
theorem zkyX7_rowFault : Cond.static yX7_rowFault ∈ zw := (zw_in 258 (by decide +kernel) (by decide +kernel))
theorem zk_X7_151 : Cond.classLink RX7 151 RX3 ∈ zw := (zw_in 260 (by decide +kernel) (by decide +kernel))
theorem zm_X7_102 : zm RX7 102 yX7_placesOf cX7_placesOf 2 (some .int) 1 := ⟨(zw_in 263 (by decide +kernel) (by decide +kernel)), Or.inl (zw_in 261 (by decide +kernel) (by decide +kernel)), (zw_in 35 (by decide +kernel) (by decide +kernel)), by decide +kernel, by decide⟩
theorem zkyX7_placesOf : Cond.static yX7_placesOf ∈ zw := (zw_in 262 (by decide +kernel) (by decide +kernel))
theorem zm_X7_79 : zm RX7 79 yX7_answer cX7_answer 3 (some .int) 2 := ⟨(zw_in 267 (by decide +kernel) (by decide +kernel)), Or.inl (zw_in 264 (by decide +kernel) (by decide +kernel)), (zw_in 35 (by decide +kernel) (by decide +kernel)), by decide +kernel, by decide⟩
theorem zkyX7_answer : Cond.instanceMethod yX7_answer ∈ zw ∧ Cond.selects yX7_answer.cls yX7_answer yX7_answer ∈ zw := ⟨(zw_in 266 (by decide +kernel) (by decide +kernel)), (zw_in 2 (by decide +kernel) (by decide +kernel))⟩
theorem zm_X7_117 : zm RX7 117 yX7_countFault cX7_countFault 2 none 1 := ⟨(zw_in 271 (by decide +kernel) (by decide +kernel)), Or.inl (zw_in 268 (by decide +kernel) (by decide +kernel)), (zw_in 35 (by decide +kernel) (by decide +kernel)), by decide +kernel, by decide⟩
theorem zkyX7_countFault : Cond.instanceMethod yX7_countFault ∈ zw ∧ Cond.selects yX7_countFault.cls yX7_countFault yX7_countFault ∈ zw := ⟨(zw_in 270 (by decide +kernel) (by decide +kernel)), (zw_in 3 (by decide +kernel) (by decide +kernel))⟩
theorem zm_L_57 : zm RL 57 yX7_set cX7_set 3 (some .int) 2 := ⟨(zw_in 275 (by decide +kernel) (by decide +kernel)), Or.inl (zw_in 272 (by decide +kernel) (by decide +kernel)), (zw_in 35 (by decide +kernel) (by decide +kernel)), by decide +kernel, by decide⟩
theorem zkyX7_set : Cond.instanceMethod yX7_set ∈ zw ∧ Cond.selects yX7_set.cls yX7_set yX7_set ∈ zw := ⟨(zw_in 273 (by decide +kernel) (by decide +kernel)), (zw_in 274 (by decide +kernel) (by decide +kernel))⟩
theorem zm_X7_83 : zm RX7 83 yX7_setPlace cX7_setPlace 4 (some .int) 3 := ⟨(zw_in 278 (by decide +kernel) (by decide +kernel)), Or.inl (zw_in 276 (by decide +kernel) (by decide +kernel)), (zw_in 35 (by decide +kernel) (by decide +kernel)), by decide +kernel, by decide⟩
theorem zkyX7_setPlace : Cond.static yX7_setPlace ∈ zw := (zw_in 277 (by decide +kernel) (by decide +kernel))
theorem zm_X7_172 : zm RX7 172 yX7_setNumber cX7_setNumber 3 (some .int) 3 := ⟨(zw_in 281 (by decide +kernel) (by decide +kernel)), Or.inl (zw_in 279 (by decide +kernel) (by decide +kernel)), (zw_in 35 (by decide +kernel) (by decide +kernel)), by decide +kernel, by decide⟩
theorem zkyX7_setNumber : Cond.static yX7_setNumber ∈ zw := (zw_in 280 (by decide +kernel) (by decide +kernel))
theorem zm_X7_94 : zm RX7 94 yX7_writePlace cX7_writePlace 6 (some .int) 4 := ⟨(zw_in 284 (by decide +kernel) (by decide +kernel)), Or.inl (zw_in 282 (by decide +kernel) (by decide +kernel)), (zw_in 35 (by decide +kernel) (by decide +kernel)), by decide +kernel, by decide⟩
theorem zkyX7_writePlace : Cond.static yX7_writePlace ∈ zw := (zw_in 283 (by decide +kernel) (by decide +kernel))
theorem zm_X7_182 : zm RX7 182 yX7_goesInto cX7_goesInto 2 (some .boolean) 2 := ⟨(zw_in 287 (by decide +kernel) (by decide +kernel)), Or.inl (zw_in 285 (by decide +kernel) (by decide +kernel)), (zw_in 35 (by decide +kernel) (by decide +kernel)), by decide +kernel, by decide⟩
theorem zkyX7_goesInto : Cond.static yX7_goesInto ∈ zw := (zw_in 286 (by decide +kernel) (by decide +kernel))
theorem zm_X7_187 : zm RX7 187 yX7_asKind cX7_asKind 3 (some .long) 2 := ⟨(zw_in 212 (by decide +kernel) (by decide +kernel)), Or.inl (zw_in 290 (by decide +kernel) (by decide +kernel)), (zw_in 35 (by decide +kernel) (by decide +kernel)), by decide +kernel, by decide⟩
theorem zm_X7_176 : zm RX7 176 yX7_setThing cX7_setThing 3 (some .int) 3 := ⟨(zw_in 293 (by decide +kernel) (by decide +kernel)), Or.inl (zw_in 291 (by decide +kernel) (by decide +kernel)), (zw_in 35 (by decide +kernel) (by decide +kernel)), by decide +kernel, by decide⟩
theorem zkyX7_setThing : Cond.static yX7_setThing ∈ zw := (zw_in 292 (by decide +kernel) (by decide +kernel))
theorem zm_L_61 : zm RL 61 yX7_read cX7_read 4 (some .int) 3 := ⟨(zw_in 297 (by decide +kernel) (by decide +kernel)), Or.inl (zw_in 294 (by decide +kernel) (by decide +kernel)), (zw_in 35 (by decide +kernel) (by decide +kernel)), by decide +kernel, by decide⟩
theorem zkyX7_read : Cond.instanceMethod yX7_read ∈ zw ∧ Cond.selects yX7_read.cls yX7_read yX7_read ∈ zw := ⟨(zw_in 295 (by decide +kernel) (by decide +kernel)), (zw_in 296 (by decide +kernel) (by decide +kernel))⟩
theorem zm_X7_86 : zm RX7 86 yX7_readPlace cX7_readPlace 5 (some .int) 4 := ⟨(zw_in 300 (by decide +kernel) (by decide +kernel)), Or.inl (zw_in 298 (by decide +kernel) (by decide +kernel)), (zw_in 35 (by decide +kernel) (by decide +kernel)), by decide +kernel, by decide⟩
theorem zkyX7_readPlace : Cond.static yX7_readPlace ∈ zw := (zw_in 299 (by decide +kernel) (by decide +kernel))
theorem zm_L_65 : zm RL 65 yX7_write cX7_write 4 (some .int) 3 := ⟨(zw_in 304 (by decide +kernel) (by decide +kernel)), Or.inl (zw_in 301 (by decide +kernel) (by decide +kernel)), (zw_in 35 (by decide +kernel) (by decide +kernel)), by decide +kernel, by decide⟩
theorem zkyX7_write : Cond.instanceMethod yX7_write ∈ zw ∧ Cond.selects yX7_write.cls yX7_write yX7_write ∈ zw := ⟨(zw_in 302 (by decide +kernel) (by decide +kernel)), (zw_in 303 (by decide +kernel) (by decide +kernel))⟩
theorem zm_L_69 : zm RL 69 yX7_size cX7_size 2 (some .int) 1 := ⟨(zw_in 308 (by decide +kernel) (by decide +kernel)), Or.inl (zw_in 305 (by decide +kernel) (by decide +kernel)), (zw_in 35 (by decide +kernel) (by decide +kernel)), by decide +kernel, by decide⟩
theorem zkyX7_size : Cond.instanceMethod yX7_size ∈ zw ∧ Cond.selects yX7_size.cls yX7_size yX7_size ∈ zw := ⟨(zw_in 306 (by decide +kernel) (by decide +kernel)), (zw_in 307 (by decide +kernel) (by decide +kernel))⟩
theorem zm_L_73 : zm RL 73 yX7_within cX7_within 4 (some .int) 3 := ⟨(zw_in 312 (by decide +kernel) (by decide +kernel)), Or.inl (zw_in 309 (by decide +kernel) (by decide +kernel)), (zw_in 35 (by decide +kernel) (by decide +kernel)), by decide +kernel, by decide⟩
theorem zkyX7_within : Cond.instanceMethod yX7_within ∈ zw ∧ Cond.selects yX7_within.cls yX7_within yX7_within ∈ zw := ⟨(zw_in 310 (by decide +kernel) (by decide +kernel)), (zw_in 311 (by decide +kernel) (by decide +kernel))⟩
theorem zm_X7_105 : zm RX7 105 yX7_readWithin cX7_readWithin 5 (some .int) 3 := ⟨(zw_in 316 (by decide +kernel) (by decide +kernel)), Or.inl (zw_in 313 (by decide +kernel) (by decide +kernel)), (zw_in 35 (by decide +kernel) (by decide +kernel)), by decide +kernel, by decide⟩
theorem zkyX7_readWithin : Cond.instanceMethod yX7_readWithin ∈ zw ∧ Cond.selects yX7_readWithin.cls yX7_readWithin yX7_readWithin ∈ zw := ⟨(zw_in 315 (by decide +kernel) (by decide +kernel)), (zw_in 4 (by decide +kernel) (by decide +kernel))⟩
theorem zm_X7_191 : zm RX7 191 yX7_takeInner cX7_takeInner 4 (some .int) 2 := ⟨(zw_in 320 (by decide +kernel) (by decide +kernel)), Or.inl (zw_in 317 (by decide +kernel) (by decide +kernel)), (zw_in 35 (by decide +kernel) (by decide +kernel)), by decide +kernel, by decide⟩
theorem zkyX7_takeInner : Cond.instanceMethod yX7_takeInner ∈ zw ∧ Cond.selects yX7_takeInner.cls yX7_takeInner yX7_takeInner ∈ zw := ⟨(zw_in 319 (by decide +kernel) (by decide +kernel)), (zw_in 5 (by decide +kernel) (by decide +kernel))⟩
theorem zm_L_77 : zm RL 77 yX7_into cX7_into 5 (some .int) 4 := ⟨(zw_in 324 (by decide +kernel) (by decide +kernel)), Or.inl (zw_in 321 (by decide +kernel) (by decide +kernel)), (zw_in 35 (by decide +kernel) (by decide +kernel)), by decide +kernel, by decide⟩
theorem zkyX7_into : Cond.instanceMethod yX7_into ∈ zw ∧ Cond.selects yX7_into.cls yX7_into yX7_into ∈ zw := ⟨(zw_in 322 (by decide +kernel) (by decide +kernel)), (zw_in 323 (by decide +kernel) (by decide +kernel))⟩
theorem zm_X7_109 : zm RX7 109 yX7_writeWithin cX7_writeWithin 6 (some .int) 4 := ⟨(zw_in 328 (by decide +kernel) (by decide +kernel)), Or.inl (zw_in 325 (by decide +kernel) (by decide +kernel)), (zw_in 35 (by decide +kernel) (by decide +kernel)), by decide +kernel, by decide⟩
theorem zkyX7_writeWithin : Cond.instanceMethod yX7_writeWithin ∈ zw ∧ Cond.selects yX7_writeWithin.cls yX7_writeWithin yX7_writeWithin ∈ zw := ⟨(zw_in 327 (by decide +kernel) (by decide +kernel)), (zw_in 6 (by decide +kernel) (by decide +kernel))⟩
theorem zm_L_82 : zm RL 82 yX7_pass cX7_pass 7 (some .int) 3 := ⟨(zw_in 332 (by decide +kernel) (by decide +kernel)), Or.inl (zw_in 329 (by decide +kernel) (by decide +kernel)), (zw_in 35 (by decide +kernel) (by decide +kernel)), by decide +kernel, by decide⟩
theorem zkyX7_pass : Cond.instanceMethod yX7_pass ∈ zw ∧ Cond.selects yX7_pass.cls yX7_pass yX7_pass ∈ zw := ⟨(zw_in 330 (by decide +kernel) (by decide +kernel)), (zw_in 331 (by decide +kernel) (by decide +kernel))⟩
theorem zm_X7_113 : zm RX7 113 yX7_passPlace cX7_passPlace 6 (some .int) 4 := ⟨(zw_in 336 (by decide +kernel) (by decide +kernel)), Or.inl (zw_in 333 (by decide +kernel) (by decide +kernel)), (zw_in 35 (by decide +kernel) (by decide +kernel)), by decide +kernel, by decide⟩
theorem zkyX7_passPlace : Cond.instanceMethod yX7_passPlace ∈ zw ∧ Cond.selects yX7_passPlace.cls yX7_passPlace yX7_passPlace ∈ zw := ⟨(zw_in 335 (by decide +kernel) (by decide +kernel)), (zw_in 7 (by decide +kernel) (by decide +kernel))⟩
theorem zm_L_86 : zm RL 86 yX7_takes cX7_takes 2 (some .int) 1 := ⟨(zw_in 340 (by decide +kernel) (by decide +kernel)), Or.inl (zw_in 337 (by decide +kernel) (by decide +kernel)), (zw_in 35 (by decide +kernel) (by decide +kernel)), by decide +kernel, by decide⟩
theorem zkyX7_takes : Cond.instanceMethod yX7_takes ∈ zw ∧ Cond.selects yX7_takes.cls yX7_takes yX7_takes ∈ zw := ⟨(zw_in 338 (by decide +kernel) (by decide +kernel)), (zw_in 339 (by decide +kernel) (by decide +kernel))⟩
theorem zm_X7_125 : zm RX7 125 yX7_kindsTaken cX7_kindsTaken 4 (some .int) 1 := ⟨(zw_in 343 (by decide +kernel) (by decide +kernel)), Or.inl (zw_in 341 (by decide +kernel) (by decide +kernel)), (zw_in 35 (by decide +kernel) (by decide +kernel)), by decide +kernel, by decide⟩
theorem zkyX7_kindsTaken : Cond.static yX7_kindsTaken ∈ zw := (zw_in 342 (by decide +kernel) (by decide +kernel))
theorem zm_L_90 : zm RL 90 yX7_gives cX7_gives 2 (some .int) 1 := ⟨(zw_in 347 (by decide +kernel) (by decide +kernel)), Or.inl (zw_in 344 (by decide +kernel) (by decide +kernel)), (zw_in 35 (by decide +kernel) (by decide +kernel)), by decide +kernel, by decide⟩
theorem zkyX7_gives : Cond.instanceMethod yX7_gives ∈ zw ∧ Cond.selects yX7_gives.cls yX7_gives yX7_gives ∈ zw := ⟨(zw_in 345 (by decide +kernel) (by decide +kernel)), (zw_in 346 (by decide +kernel) (by decide +kernel))⟩
theorem zm_X7_128 : zm RX7 128 yX7_kindsGiven cX7_kindsGiven 4 (some .int) 1 := ⟨(zw_in 350 (by decide +kernel) (by decide +kernel)), Or.inl (zw_in 348 (by decide +kernel) (by decide +kernel)), (zw_in 35 (by decide +kernel) (by decide +kernel)), by decide +kernel, by decide⟩
theorem zkyX7_kindsGiven : Cond.static yX7_kindsGiven ∈ zw := (zw_in 349 (by decide +kernel) (by decide +kernel))
theorem zm_L_94 : zm RL 94 yX7_step cX7_step 6 (some .int) 5 := ⟨(zw_in 354 (by decide +kernel) (by decide +kernel)), Or.inl (zw_in 351 (by decide +kernel) (by decide +kernel)), (zw_in 35 (by decide +kernel) (by decide +kernel)), by decide +kernel, by decide⟩
theorem zkyX7_step : Cond.instanceMethod yX7_step ∈ zw ∧ Cond.selects yX7_step.cls yX7_step yX7_step ∈ zw := ⟨(zw_in 352 (by decide +kernel) (by decide +kernel)), (zw_in 353 (by decide +kernel) (by decide +kernel))⟩
theorem zm_X7_134 : zm RX7 134 yX4_become cX4_become 6 none 5 := ⟨(zw_in 358 (by decide +kernel) (by decide +kernel)), Or.inr (by decide +kernel), (zw_in 37 (by decide +kernel) (by decide +kernel)), by decide +kernel, by decide⟩
theorem zkyX4_become : Cond.instanceMethod yX4_become ∈ zw ∧ Cond.selects yX4_become.cls yX4_become yX4_become ∈ zw := ⟨(zw_in 357 (by decide +kernel) (by decide +kernel)), (zw_in 8 (by decide +kernel) (by decide +kernel))⟩
theorem zm_L_99 : zm RL 99 yX7_run cX7_run 5 (some .int) 1 := ⟨(zw_in 362 (by decide +kernel) (by decide +kernel)), Or.inl (zw_in 359 (by decide +kernel) (by decide +kernel)), (zw_in 35 (by decide +kernel) (by decide +kernel)), by decide +kernel, by decide⟩
theorem zkyX7_run : Cond.instanceMethod yX7_run ∈ zw ∧ Cond.selects yX7_run.cls yX7_run yX7_run ∈ zw := ⟨(zw_in 360 (by decide +kernel) (by decide +kernel)), (zw_in 361 (by decide +kernel) (by decide +kernel))⟩
theorem zm_X7_138 : zm RX7 138 yX7_forgetRun cX7_forgetRun 2 none 0 := ⟨(zw_in 366 (by decide +kernel) (by decide +kernel)), Or.inl (zw_in 363 (by decide +kernel) (by decide +kernel)), (zw_in 35 (by decide +kernel) (by decide +kernel)), by decide +kernel, by decide⟩
theorem zkyX7_forgetRun : Cond.instanceMethod yX7_forgetRun ∈ zw ∧ Cond.selects yX7_forgetRun.cls yX7_forgetRun yX7_forgetRun ∈ zw := ⟨(zw_in 365 (by decide +kernel) (by decide +kernel)), (zw_in 9 (by decide +kernel) (by decide +kernel))⟩
theorem zm_X7_141 : zm RX7 141 yX7_doStep cX7_doStep 3 (some .int) 1 := ⟨(zw_in 370 (by decide +kernel) (by decide +kernel)), Or.inl (zw_in 367 (by decide +kernel) (by decide +kernel)), (zw_in 35 (by decide +kernel) (by decide +kernel)), by decide +kernel, by decide⟩
theorem zkyX7_doStep : Cond.instanceMethod yX7_doStep ∈ zw ∧ Cond.selects yX7_doStep.cls yX7_doStep yX7_doStep ∈ zw := ⟨(zw_in 369 (by decide +kernel) (by decide +kernel)), (zw_in 10 (by decide +kernel) (by decide +kernel))⟩
theorem zm_X7_209 : zm RX7 209 yX7_movePlace cX7_movePlace 6 (some .int) 4 := ⟨(zw_in 374 (by decide +kernel) (by decide +kernel)), Or.inl (zw_in 371 (by decide +kernel) (by decide +kernel)), (zw_in 35 (by decide +kernel) (by decide +kernel)), by decide +kernel, by decide⟩
theorem zkyX7_movePlace : Cond.instanceMethod yX7_movePlace ∈ zw ∧ Cond.selects yX7_movePlace.cls yX7_movePlace yX7_movePlace ∈ zw := ⟨(zw_in 373 (by decide +kernel) (by decide +kernel)), (zw_in 11 (by decide +kernel) (by decide +kernel))⟩
theorem zm_L_103 : zm RL 103 yX7_met cX7_met 2 (some .int) 1 := ⟨(zw_in 378 (by decide +kernel) (by decide +kernel)), Or.inl (zw_in 375 (by decide +kernel) (by decide +kernel)), (zw_in 35 (by decide +kernel) (by decide +kernel)), by decide +kernel, by decide⟩
theorem zkyX7_met : Cond.instanceMethod yX7_met ∈ zw ∧ Cond.selects yX7_met.cls yX7_met yX7_met ∈ zw := ⟨(zw_in 376 (by decide +kernel) (by decide +kernel)), (zw_in 377 (by decide +kernel) (by decide +kernel))⟩
theorem zm_L_107 : zm RL 107 yX7_clear cX7_clear 2 (some .int) 0 := ⟨(zw_in 382 (by decide +kernel) (by decide +kernel)), Or.inl (zw_in 379 (by decide +kernel) (by decide +kernel)), (zw_in 35 (by decide +kernel) (by decide +kernel)), by decide +kernel, by decide⟩
theorem zkyX7_clear : Cond.instanceMethod yX7_clear ∈ zw ∧ Cond.selects yX7_clear.cls yX7_clear yX7_clear ∈ zw := ⟨(zw_in 380 (by decide +kernel) (by decide +kernel)), (zw_in 381 (by decide +kernel) (by decide +kernel))⟩
theorem zm_L_111 : zm RL 111 yX7_fault cX7_fault 1 (some .int) 0 := ⟨(zw_in 386 (by decide +kernel) (by decide +kernel)), Or.inl (zw_in 383 (by decide +kernel) (by decide +kernel)), (zw_in 35 (by decide +kernel) (by decide +kernel)), by decide +kernel, by decide⟩
theorem zkyX7_fault : Cond.instanceMethod yX7_fault ∈ zw ∧ Cond.selects yX7_fault.cls yX7_fault yX7_fault ∈ zw := ⟨(zw_in 384 (by decide +kernel) (by decide +kernel)), (zw_in 385 (by decide +kernel) (by decide +kernel))⟩
theorem zm_L_115 : zm RL 115 yX7_faults cX7_faults 2 (some .int) 1 := ⟨(zw_in 390 (by decide +kernel) (by decide +kernel)), Or.inl (zw_in 387 (by decide +kernel) (by decide +kernel)), (zw_in 35 (by decide +kernel) (by decide +kernel)), by decide +kernel, by decide⟩
theorem zkyX7_faults : Cond.instanceMethod yX7_faults ∈ zw ∧ Cond.selects yX7_faults.cls yX7_faults yX7_faults ∈ zw := ⟨(zw_in 388 (by decide +kernel) (by decide +kernel)), (zw_in 389 (by decide +kernel) (by decide +kernel))⟩
theorem zm_L_119 : zm RL 119 yX7_has cX7_has 1 (some .int) 0 := ⟨(zw_in 394 (by decide +kernel) (by decide +kernel)), Or.inl (zw_in 391 (by decide +kernel) (by decide +kernel)), (zw_in 35 (by decide +kernel) (by decide +kernel)), by decide +kernel, by decide⟩
theorem zkyX7_has : Cond.instanceMethod yX7_has ∈ zw ∧ Cond.selects yX7_has.cls yX7_has yX7_has ∈ zw := ⟨(zw_in 392 (by decide +kernel) (by decide +kernel)), (zw_in 393 (by decide +kernel) (by decide +kernel))⟩
theorem zm_L_123 : zm RL 123 yX7_value cX7_value 1 (some .long) 0 := ⟨(zw_in 398 (by decide +kernel) (by decide +kernel)), Or.inl (zw_in 395 (by decide +kernel) (by decide +kernel)), (zw_in 35 (by decide +kernel) (by decide +kernel)), by decide +kernel, by decide⟩
theorem zkyX7_value : Cond.instanceMethod yX7_value ∈ zw ∧ Cond.selects yX7_value.cls yX7_value yX7_value ∈ zw := ⟨(zw_in 396 (by decide +kernel) (by decide +kernel)), (zw_in 397 (by decide +kernel) (by decide +kernel))⟩
theorem zm_L_128 : zm RL 128 yX7_told cX7_told 4 (some .int) 1 := ⟨(zw_in 402 (by decide +kernel) (by decide +kernel)), Or.inl (zw_in 399 (by decide +kernel) (by decide +kernel)), (zw_in 35 (by decide +kernel) (by decide +kernel)), by decide +kernel, by decide⟩
theorem zkyX7_told : Cond.instanceMethod yX7_told ∈ zw ∧ Cond.selects yX7_told.cls yX7_told yX7_told ∈ zw := ⟨(zw_in 400 (by decide +kernel) (by decide +kernel)), (zw_in 401 (by decide +kernel) (by decide +kernel))⟩
theorem zm_L_132 : zm RL 132 yX7_same cX7_same 4 (some .int) 1 := ⟨(zw_in 406 (by decide +kernel) (by decide +kernel)), Or.inl (zw_in 403 (by decide +kernel) (by decide +kernel)), (zw_in 35 (by decide +kernel) (by decide +kernel)), by decide +kernel, by decide⟩
theorem zkyX7_same : Cond.instanceMethod yX7_same ∈ zw ∧ Cond.selects yX7_same.cls yX7_same yX7_same ∈ zw := ⟨(zw_in 404 (by decide +kernel) (by decide +kernel)), (zw_in 405 (by decide +kernel) (by decide +kernel))⟩
theorem zk_L_10 : Cond.classLink RL 10 RX8 ∈ zw := (zw_in 407 (by decide +kernel) (by decide +kernel))
theorem zn_L_10 : zn RL 10 6 20 [.null, .null, .int 0, .int 0, .long 0, .int 0, .int 0, .null, .int 0, .null, .null, .null, .int 0, .null, .int 0, .null, .int 0, .null, .int 0, .int 0] := ⟨_, _, tyX8, rfl, zu_X8, tyX8_ok, zk_L_10, (zw_in 408 (by decide +kernel) (by decide +kernel)), (zw_in 38 (by decide +kernel) (by decide +kernel)), fun j hj => by rcases (show j = 0 ∨ j = 1 ∨ j = 2 ∨ j = 3 ∨ j = 4 ∨ j = 5 ∨ j = 6 ∨ j = 7 ∨ j = 8 ∨ j = 9 ∨ j = 10 ∨ j = 11 ∨ j = 12 ∨ j = 13 ∨ j = 14 ∨ j = 15 ∨ j = 16 ∨ j = 17 ∨ j = 18 ∨ j = 19 by omega) with rfl | rfl | rfl | rfl | rfl | rfl | rfl | rfl | rfl | rfl | rfl | rfl | rfl | rfl | rfl | rfl | rfl | rfl | rfl | rfl <;> rfl⟩
theorem zm_L_12 : zm RL 12 yX8_init cX8_init 1 none 0 := ⟨(zw_in 411 (by decide +kernel) (by decide +kernel)), Or.inl (zw_in 409 (by decide +kernel) (by decide +kernel)), (zw_in 38 (by decide +kernel) (by decide +kernel)), by decide +kernel, by decide⟩
theorem zkyX8_init : yX8_init.name = "<init>" ∧ Cond.instanceMethod yX8_init ∈ zw := ⟨rfl, (zw_in 410 (by decide +kernel) (by decide +kernel))⟩
theorem zo_X8_1 : Cond.methodLink RX8 1 objectInit ∈ zw := (zw_in 412 (by decide +kernel) (by decide +kernel))
theorem zq_X8_26 : Cond.constant RX8 26 (80000) ∈ zw := (zw_in 413 (by decide +kernel) (by decide +kernel))
theorem za_boolean : Cond.arrayClass .boolean ∈ zw := (zw_in 475 (by decide +kernel) (by decide +kernel))
theorem zm_L_17 : zm RL 17 yX8_rack cX8_rack 4 (some .int) 3 := ⟨(zw_in 479 (by decide +kernel) (by decide +kernel)), Or.inl (zw_in 476 (by decide +kernel) (by decide +kernel)), (zw_in 38 (by decide +kernel) (by decide +kernel)), by decide +kernel, by decide⟩
theorem zkyX8_rack : Cond.instanceMethod yX8_rack ∈ zw ∧ Cond.selects yX8_rack.cls yX8_rack yX8_rack ∈ zw := ⟨(zw_in 477 (by decide +kernel) (by decide +kernel)), (zw_in 478 (by decide +kernel) (by decide +kernel))⟩
theorem zm_X8_57 : zm RX8 57 yX8_no cX8_no 1 (some .boolean) 1 := ⟨(zw_in 482 (by decide +kernel) (by decide +kernel)), Or.inl (zw_in 480 (by decide +kernel) (by decide +kernel)), (zw_in 38 (by decide +kernel) (by decide +kernel)), by decide +kernel, by decide⟩
theorem zkyX8_no : Cond.static yX8_no ∈ zw := (zw_in 481 (by decide +kernel) (by decide +kernel))
theorem zq_X8_40 : Cond.constantLong RX8 40 (9) ∈ zw := (zw_in 483 (by decide +kernel) (by decide +kernel))
theorem zm_X8_42 : zm RX8 42 yX8_beyond cX8_beyond 6 (some .boolean) 3 := ⟨(zw_in 486 (by decide +kernel) (by decide +kernel)), Or.inl (zw_in 484 (by decide +kernel) (by decide +kernel)), (zw_in 38 (by decide +kernel) (by decide +kernel)), by decide +kernel, by decide⟩
theorem zkyX8_beyond : Cond.static yX8_beyond ∈ zw := (zw_in 485 (by decide +kernel) (by decide +kernel))
theorem zq_X8_61 : Cond.constantLong RX8 61 (10) ∈ zw := (zw_in 487 (by decide +kernel) (by decide +kernel))
theorem zq_X8_63 : Cond.constantLong RX8 63 (16) ∈ zw := (zw_in 488 (by decide +kernel) (by decide +kernel))
theorem zm_X8_65 : zm RX8 65 yX8_newRow cX8_newRow 4 (some .int) 2 := ⟨(zw_in 492 (by decide +kernel) (by decide +kernel)), Or.inl (zw_in 489 (by decide +kernel) (by decide +kernel)), (zw_in 38 (by decide +kernel) (by decide +kernel)), by decide +kernel, by decide⟩
theorem zkyX8_newRow : Cond.instanceMethod yX8_newRow ∈ zw ∧ Cond.selects yX8_newRow.cls yX8_newRow yX8_newRow ∈ zw := ⟨(zw_in 491 (by decide +kernel) (by decide +kernel)), (zw_in 12 (by decide +kernel) (by decide +kernel))⟩
theorem zm_L_22 : zm RL 22 yX8_hang cX8_hang 2 (some .int) 1 := ⟨(zw_in 496 (by decide +kernel) (by decide +kernel)), Or.inl (zw_in 493 (by decide +kernel) (by decide +kernel)), (zw_in 38 (by decide +kernel) (by decide +kernel)), by decide +kernel, by decide⟩
theorem zkyX8_hang : Cond.instanceMethod yX8_hang ∈ zw ∧ Cond.selects yX8_hang.cls yX8_hang yX8_hang ∈ zw := ⟨(zw_in 494 (by decide +kernel) (by decide +kernel)), (zw_in 495 (by decide +kernel) (by decide +kernel))⟩
theorem zm_L_27 : zm RL 27 yX8_share cX8_share 3 (some .int) 2 := ⟨(zw_in 500 (by decide +kernel) (by decide +kernel)), Or.inl (zw_in 497 (by decide +kernel) (by decide +kernel)), (zw_in 38 (by decide +kernel) (by decide +kernel)), by decide +kernel, by decide⟩
theorem zkyX8_share : Cond.instanceMethod yX8_share ∈ zw ∧ Cond.selects yX8_share.cls yX8_share yX8_share ∈ zw := ⟨(zw_in 498 (by decide +kernel) (by decide +kernel)), (zw_in 499 (by decide +kernel) (by decide +kernel))⟩
theorem zm_L_31 : zm RL 31 yX8_empty cX8_empty 2 (some .int) 1 := ⟨(zw_in 504 (by decide +kernel) (by decide +kernel)), Or.inl (zw_in 501 (by decide +kernel) (by decide +kernel)), (zw_in 38 (by decide +kernel) (by decide +kernel)), by decide +kernel, by decide⟩
theorem zkyX8_empty : Cond.instanceMethod yX8_empty ∈ zw ∧ Cond.selects yX8_empty.cls yX8_empty yX8_empty ∈ zw := ⟨(zw_in 502 (by decide +kernel) (by decide +kernel)), (zw_in 503 (by decide +kernel) (by decide +kernel))⟩
theorem zm_L_38 : zm RL 38 yX8_gauge cX8_gauge 4 (some .int) 2 := ⟨(zw_in 508 (by decide +kernel) (by decide +kernel)), Or.inl (zw_in 505 (by decide +kernel) (by decide +kernel)), (zw_in 38 (by decide +kernel) (by decide +kernel)), by decide +kernel, by decide⟩
theorem zkyX8_gauge : Cond.instanceMethod yX8_gauge ∈ zw ∧ Cond.selects yX8_gauge.cls yX8_gauge yX8_gauge ∈ zw := ⟨(zw_in 506 (by decide +kernel) (by decide +kernel)), (zw_in 507 (by decide +kernel) (by decide +kernel))⟩
theorem zq_X8_82 : Cond.constantLong RX8 82 (7) ∈ zw := (zw_in 509 (by decide +kernel) (by decide +kernel))
theorem zm_X8_84 : zm RX8 84 yX8_as cX8_as 3 (some .long) 2 := ⟨(zw_in 512 (by decide +kernel) (by decide +kernel)), Or.inl (zw_in 510 (by decide +kernel) (by decide +kernel)), (zw_in 38 (by decide +kernel) (by decide +kernel)), by decide +kernel, by decide⟩
theorem zkyX8_as : Cond.static yX8_as ∈ zw := (zw_in 511 (by decide +kernel) (by decide +kernel))
theorem zm_X8_88 : zm RX8 88 yX8_hold cX8_hold 4 none 2 := ⟨(zw_in 516 (by decide +kernel) (by decide +kernel)), Or.inl (zw_in 513 (by decide +kernel) (by decide +kernel)), (zw_in 38 (by decide +kernel) (by decide +kernel)), by decide +kernel, by decide⟩
theorem zkyX8_hold : Cond.instanceMethod yX8_hold ∈ zw ∧ Cond.selects yX8_hold.cls yX8_hold yX8_hold ∈ zw := ⟨(zw_in 515 (by decide +kernel) (by decide +kernel)), (zw_in 13 (by decide +kernel) (by decide +kernel))⟩
theorem zm_L_43 : zm RL 43 yX8_probe cX8_probe 2 (some .int) 1 := ⟨(zw_in 520 (by decide +kernel) (by decide +kernel)), Or.inl (zw_in 517 (by decide +kernel) (by decide +kernel)), (zw_in 38 (by decide +kernel) (by decide +kernel)), by decide +kernel, by decide⟩
theorem zkyX8_probe : Cond.instanceMethod yX8_probe ∈ zw ∧ Cond.selects yX8_probe.cls yX8_probe yX8_probe ∈ zw := ⟨(zw_in 518 (by decide +kernel) (by decide +kernel)), (zw_in 519 (by decide +kernel) (by decide +kernel))⟩
theorem zm_L_47 : zm RL 47 yX8_line cX8_line 2 (some .int) 1 := ⟨(zw_in 524 (by decide +kernel) (by decide +kernel)), Or.inl (zw_in 521 (by decide +kernel) (by decide +kernel)), (zw_in 38 (by decide +kernel) (by decide +kernel)), by decide +kernel, by decide⟩
theorem zkyX8_line : Cond.instanceMethod yX8_line ∈ zw ∧ Cond.selects yX8_line.cls yX8_line yX8_line ∈ zw := ⟨(zw_in 522 (by decide +kernel) (by decide +kernel)), (zw_in 523 (by decide +kernel) (by decide +kernel))⟩
theorem zq_X8_95 : Cond.constantLong RX8 95 (4) ∈ zw := (zw_in 525 (by decide +kernel) (by decide +kernel))
theorem zm_L_52 : zm RL 52 yX8_none cX8_none 1 (some .int) 0 := ⟨(zw_in 529 (by decide +kernel) (by decide +kernel)), Or.inl (zw_in 526 (by decide +kernel) (by decide +kernel)), (zw_in 38 (by decide +kernel) (by decide +kernel)), by decide +kernel, by decide⟩
theorem zkyX8_none : Cond.instanceMethod yX8_none ∈ zw ∧ Cond.selects yX8_none.cls yX8_none yX8_none ∈ zw := ⟨(zw_in 527 (by decide +kernel) (by decide +kernel)), (zw_in 528 (by decide +kernel) (by decide +kernel))⟩
theorem zm_L_56 : zm RL 56 yX8_get cX8_get 4 (some .int) 2 := ⟨(zw_in 533 (by decide +kernel) (by decide +kernel)), Or.inl (zw_in 530 (by decide +kernel) (by decide +kernel)), (zw_in 38 (by decide +kernel) (by decide +kernel)), by decide +kernel, by decide⟩
theorem zkyX8_get : Cond.instanceMethod yX8_get ∈ zw ∧ Cond.selects yX8_get.cls yX8_get yX8_get ∈ zw := ⟨(zw_in 531 (by decide +kernel) (by decide +kernel)), (zw_in 532 (by decide +kernel) (by decide +kernel))⟩
theorem zm_X8_115 : zm RX8 115 yX8_doGet cX8_doGet 4 (some .int) 2 := ⟨(zw_in 537 (by decide +kernel) (by decide +kernel)), Or.inl (zw_in 534 (by decide +kernel) (by decide +kernel)), (zw_in 38 (by decide +kernel) (by decide +kernel)), by decide +kernel, by decide⟩
theorem zkyX8_doGet : Cond.instanceMethod yX8_doGet ∈ zw ∧ Cond.selects yX8_doGet.cls yX8_doGet yX8_doGet ∈ zw := ⟨(zw_in 536 (by decide +kernel) (by decide +kernel)), (zw_in 14 (by decide +kernel) (by decide +kernel))⟩
theorem zm_X8_107 : zm RX8 107 yX8_getFault cX8_getFault 4 (some .int) 3 := ⟨(zw_in 541 (by decide +kernel) (by decide +kernel)), Or.inl (zw_in 538 (by decide +kernel) (by decide +kernel)), (zw_in 38 (by decide +kernel) (by decide +kernel)), by decide +kernel, by decide⟩
theorem zkyX8_getFault : Cond.instanceMethod yX8_getFault ∈ zw ∧ Cond.selects yX8_getFault.cls yX8_getFault yX8_getFault ∈ zw := ⟨(zw_in 540 (by decide +kernel) (by decide +kernel)), (zw_in 15 (by decide +kernel) (by decide +kernel))⟩
theorem zm_X8_111 : zm RX8 111 yX8_gets cX8_gets 6 none 2 := ⟨(zw_in 545 (by decide +kernel) (by decide +kernel)), Or.inl (zw_in 542 (by decide +kernel) (by decide +kernel)), (zw_in 38 (by decide +kernel) (by decide +kernel)), by decide +kernel, by decide⟩
theorem zkyX8_gets : Cond.instanceMethod yX8_gets ∈ zw ∧ Cond.selects yX8_gets.cls yX8_gets yX8_gets ∈ zw := ⟨(zw_in 544 (by decide +kernel) (by decide +kernel)), (zw_in 16 (by decide +kernel) (by decide +kernel))⟩
theorem zm_X8_118 : zm RX8 118 yX8_has cX8_has 1 (some .int) 0 := ⟨(zw_in 549 (by decide +kernel) (by decide +kernel)), Or.inl (zw_in 546 (by decide +kernel) (by decide +kernel)), (zw_in 38 (by decide +kernel) (by decide +kernel)), by decide +kernel, by decide⟩
theorem zkyX8_has : Cond.instanceMethod yX8_has ∈ zw ∧ Cond.selects yX8_has.cls yX8_has yX8_has ∈ zw := ⟨(zw_in 547 (by decide +kernel) (by decide +kernel)), (zw_in 548 (by decide +kernel) (by decide +kernel))⟩
theorem zm_X8_121 : zm RX8 121 yX8_answer cX8_answer 3 (some .int) 2 := ⟨(zw_in 553 (by decide +kernel) (by decide +kernel)), Or.inl (zw_in 550 (by decide +kernel) (by decide +kernel)), (zw_in 38 (by decide +kernel) (by decide +kernel)), by decide +kernel, by decide⟩
theorem zkyX8_answer : Cond.instanceMethod yX8_answer ∈ zw ∧ Cond.selects yX8_answer.cls yX8_answer yX8_answer ∈ zw := ⟨(zw_in 552 (by decide +kernel) (by decide +kernel)), (zw_in 17 (by decide +kernel) (by decide +kernel))⟩
theorem zm_X8_50 : zm RX8 50 yX8_met1 cX8_met1 2 (some .int) 1 := ⟨(zw_in 557 (by decide +kernel) (by decide +kernel)), Or.inl (zw_in 554 (by decide +kernel) (by decide +kernel)), (zw_in 38 (by decide +kernel) (by decide +kernel)), by decide +kernel, by decide⟩
theorem zkyX8_met1 : Cond.instanceMethod yX8_met1 ∈ zw ∧ Cond.selects yX8_met1.cls yX8_met1 yX8_met1 ∈ zw := ⟨(zw_in 556 (by decide +kernel) (by decide +kernel)), (zw_in 18 (by decide +kernel) (by decide +kernel))⟩
theorem zm_L_60 : zm RL 60 yX8_set cX8_set 3 (some .int) 2 := ⟨(zw_in 561 (by decide +kernel) (by decide +kernel)), Or.inl (zw_in 558 (by decide +kernel) (by decide +kernel)), (zw_in 38 (by decide +kernel) (by decide +kernel)), by decide +kernel, by decide⟩
theorem zkyX8_set : Cond.instanceMethod yX8_set ∈ zw ∧ Cond.selects yX8_set.cls yX8_set yX8_set ∈ zw := ⟨(zw_in 559 (by decide +kernel) (by decide +kernel)), (zw_in 560 (by decide +kernel) (by decide +kernel))⟩
theorem zm_X8_127 : zm RX8 127 yX8_doSet cX8_doSet 5 (some .int) 2 := ⟨(zw_in 565 (by decide +kernel) (by decide +kernel)), Or.inl (zw_in 562 (by decide +kernel) (by decide +kernel)), (zw_in 38 (by decide +kernel) (by decide +kernel)), by decide +kernel, by decide⟩
theorem zkyX8_doSet : Cond.instanceMethod yX8_doSet ∈ zw ∧ Cond.selects yX8_doSet.cls yX8_doSet yX8_doSet ∈ zw := ⟨(zw_in 564 (by decide +kernel) (by decide +kernel)), (zw_in 19 (by decide +kernel) (by decide +kernel))⟩
theorem zm_X8_124 : zm RX8 124 yX8_setFault cX8_setFault 4 (some .int) 2 := ⟨(zw_in 569 (by decide +kernel) (by decide +kernel)), Or.inl (zw_in 566 (by decide +kernel) (by decide +kernel)), (zw_in 38 (by decide +kernel) (by decide +kernel)), by decide +kernel, by decide⟩
theorem zkyX8_setFault : Cond.instanceMethod yX8_setFault ∈ zw ∧ Cond.selects yX8_setFault.cls yX8_setFault yX8_setFault ∈ zw := ⟨(zw_in 568 (by decide +kernel) (by decide +kernel)), (zw_in 20 (by decide +kernel) (by decide +kernel))⟩
theorem zm_X8_97 : zm RX8 97 yX8_isNumbers cX8_isNumbers 2 (some .boolean) 1 := ⟨(zw_in 573 (by decide +kernel) (by decide +kernel)), Or.inl (zw_in 570 (by decide +kernel) (by decide +kernel)), (zw_in 38 (by decide +kernel) (by decide +kernel)), by decide +kernel, by decide⟩
theorem zkyX8_isNumbers : Cond.instanceMethod yX8_isNumbers ∈ zw ∧ Cond.selects yX8_isNumbers.cls yX8_isNumbers yX8_isNumbers ∈ zw := ⟨(zw_in 572 (by decide +kernel) (by decide +kernel)), (zw_in 21 (by decide +kernel) (by decide +kernel))⟩
theorem zm_X8_104 : zm RX8 104 yX8_unfit cX8_unfit 3 (some .boolean) 1 := ⟨(zw_in 577 (by decide +kernel) (by decide +kernel)), Or.inl (zw_in 574 (by decide +kernel) (by decide +kernel)), (zw_in 38 (by decide +kernel) (by decide +kernel)), by decide +kernel, by decide⟩
theorem zkyX8_unfit : Cond.instanceMethod yX8_unfit ∈ zw ∧ Cond.selects yX8_unfit.cls yX8_unfit yX8_unfit ∈ zw := ⟨(zw_in 576 (by decide +kernel) (by decide +kernel)), (zw_in 22 (by decide +kernel) (by decide +kernel))⟩
theorem zm_X8_100 : zm RX8 100 yX8_goes cX8_goes 2 (some .boolean) 2 := ⟨(zw_in 580 (by decide +kernel) (by decide +kernel)), Or.inl (zw_in 578 (by decide +kernel) (by decide +kernel)), (zw_in 38 (by decide +kernel) (by decide +kernel)), by decide +kernel, by decide⟩
theorem zkyX8_goes : Cond.static yX8_goes ∈ zw := (zw_in 579 (by decide +kernel) (by decide +kernel))
theorem zm_L_64 : zm RL 64 yX8_read cX8_read 4 (some .int) 3 := ⟨(zw_in 584 (by decide +kernel) (by decide +kernel)), Or.inl (zw_in 581 (by decide +kernel) (by decide +kernel)), (zw_in 38 (by decide +kernel) (by decide +kernel)), by decide +kernel, by decide⟩
theorem zkyX8_read : Cond.instanceMethod yX8_read ∈ zw ∧ Cond.selects yX8_read.cls yX8_read yX8_read ∈ zw := ⟨(zw_in 582 (by decide +kernel) (by decide +kernel)), (zw_in 583 (by decide +kernel) (by decide +kernel))⟩
theorem zm_X8_134 : zm RX8 134 yX8_doRead cX8_doRead 6 (some .int) 4 := ⟨(zw_in 588 (by decide +kernel) (by decide +kernel)), Or.inl (zw_in 585 (by decide +kernel) (by decide +kernel)), (zw_in 38 (by decide +kernel) (by decide +kernel)), by decide +kernel, by decide⟩
theorem zkyX8_doRead : Cond.instanceMethod yX8_doRead ∈ zw ∧ Cond.selects yX8_doRead.cls yX8_doRead yX8_doRead ∈ zw := ⟨(zw_in 587 (by decide +kernel) (by decide +kernel)), (zw_in 23 (by decide +kernel) (by decide +kernel))⟩
theorem zm_X8_130 : zm RX8 130 yX8_readFault cX8_readFault 5 (some .int) 4 := ⟨(zw_in 592 (by decide +kernel) (by decide +kernel)), Or.inl (zw_in 589 (by decide +kernel) (by decide +kernel)), (zw_in 38 (by decide +kernel) (by decide +kernel)), by decide +kernel, by decide⟩
theorem zkyX8_readFault : Cond.instanceMethod yX8_readFault ∈ zw ∧ Cond.selects yX8_readFault.cls yX8_readFault yX8_readFault ∈ zw := ⟨(zw_in 591 (by decide +kernel) (by decide +kernel)), (zw_in 24 (by decide +kernel) (by decide +kernel))⟩
theorem zm_L_68 : zm RL 68 yX8_write cX8_write 4 (some .int) 3 := ⟨(zw_in 596 (by decide +kernel) (by decide +kernel)), Or.inl (zw_in 593 (by decide +kernel) (by decide +kernel)), (zw_in 38 (by decide +kernel) (by decide +kernel)), by decide +kernel, by decide⟩
theorem zkyX8_write : Cond.instanceMethod yX8_write ∈ zw ∧ Cond.selects yX8_write.cls yX8_write yX8_write ∈ zw := ⟨(zw_in 594 (by decide +kernel) (by decide +kernel)), (zw_in 595 (by decide +kernel) (by decide +kernel))⟩
theorem zm_X8_140 : zm RX8 140 yX8_doWrite cX8_doWrite 8 (some .int) 5 := ⟨(zw_in 600 (by decide +kernel) (by decide +kernel)), Or.inl (zw_in 597 (by decide +kernel) (by decide +kernel)), (zw_in 38 (by decide +kernel) (by decide +kernel)), by decide +kernel, by decide⟩
theorem zkyX8_doWrite : Cond.instanceMethod yX8_doWrite ∈ zw ∧ Cond.selects yX8_doWrite.cls yX8_doWrite yX8_doWrite ∈ zw := ⟨(zw_in 599 (by decide +kernel) (by decide +kernel)), (zw_in 25 (by decide +kernel) (by decide +kernel))⟩
theorem zm_X8_137 : zm RX8 137 yX8_writeFault cX8_writeFault 5 (some .int) 4 := ⟨(zw_in 604 (by decide +kernel) (by decide +kernel)), Or.inl (zw_in 601 (by decide +kernel) (by decide +kernel)), (zw_in 38 (by decide +kernel) (by decide +kernel)), by decide +kernel, by decide⟩
theorem zkyX8_writeFault : Cond.instanceMethod yX8_writeFault ∈ zw ∧ Cond.selects yX8_writeFault.cls yX8_writeFault yX8_writeFault ∈ zw := ⟨(zw_in 603 (by decide +kernel) (by decide +kernel)), (zw_in 26 (by decide +kernel) (by decide +kernel))⟩
theorem zm_L_72 : zm RL 72 yX8_size cX8_size 3 (some .int) 1 := ⟨(zw_in 608 (by decide +kernel) (by decide +kernel)), Or.inl (zw_in 605 (by decide +kernel) (by decide +kernel)), (zw_in 38 (by decide +kernel) (by decide +kernel)), by decide +kernel, by decide⟩
theorem zkyX8_size : Cond.instanceMethod yX8_size ∈ zw ∧ Cond.selects yX8_size.cls yX8_size yX8_size ∈ zw := ⟨(zw_in 606 (by decide +kernel) (by decide +kernel)), (zw_in 607 (by decide +kernel) (by decide +kernel))⟩
theorem zm_X8_144 : zm RX8 144 yX8_sizeFault cX8_sizeFault 2 (some .int) 1 := ⟨(zw_in 612 (by decide +kernel) (by decide +kernel)), Or.inl (zw_in 609 (by decide +kernel) (by decide +kernel)), (zw_in 38 (by decide +kernel) (by decide +kernel)), by decide +kernel, by decide⟩
theorem zkyX8_sizeFault : Cond.instanceMethod yX8_sizeFault ∈ zw ∧ Cond.selects yX8_sizeFault.cls yX8_sizeFault yX8_sizeFault ∈ zw := ⟨(zw_in 611 (by decide +kernel) (by decide +kernel)), (zw_in 27 (by decide +kernel) (by decide +kernel))⟩
theorem zm_L_76 : zm RL 76 yX8_within cX8_within 4 (some .int) 3 := ⟨(zw_in 616 (by decide +kernel) (by decide +kernel)), Or.inl (zw_in 613 (by decide +kernel) (by decide +kernel)), (zw_in 38 (by decide +kernel) (by decide +kernel)), by decide +kernel, by decide⟩
theorem zkyX8_within : Cond.instanceMethod yX8_within ∈ zw ∧ Cond.selects yX8_within.cls yX8_within yX8_within ∈ zw := ⟨(zw_in 614 (by decide +kernel) (by decide +kernel)), (zw_in 615 (by decide +kernel) (by decide +kernel))⟩
theorem zm_X8_156 : zm RX8 156 yX8_doWithin cX8_doWithin 5 (some .int) 3 := ⟨(zw_in 620 (by decide +kernel) (by decide +kernel)), Or.inl (zw_in 617 (by decide +kernel) (by decide +kernel)), (zw_in 38 (by decide +kernel) (by decide +kernel)), by decide +kernel, by decide⟩
theorem zkyX8_doWithin : Cond.instanceMethod yX8_doWithin ∈ zw ∧ Cond.selects yX8_doWithin.cls yX8_doWithin yX8_doWithin ∈ zw := ⟨(zw_in 619 (by decide +kernel) (by decide +kernel)), (zw_in 28 (by decide +kernel) (by decide +kernel))⟩
theorem zm_X8_153 : zm RX8 153 yX8_finds cX8_finds 7 (some .int) 2 := ⟨(zw_in 624 (by decide +kernel) (by decide +kernel)), Or.inl (zw_in 621 (by decide +kernel) (by decide +kernel)), (zw_in 38 (by decide +kernel) (by decide +kernel)), by decide +kernel, by decide⟩
theorem zkyX8_finds : Cond.instanceMethod yX8_finds ∈ zw ∧ Cond.selects yX8_finds.cls yX8_finds yX8_finds ∈ zw := ⟨(zw_in 623 (by decide +kernel) (by decide +kernel)), (zw_in 29 (by decide +kernel) (by decide +kernel))⟩
theorem zm_L_81 : zm RL 81 yX8_into cX8_into 6 (some .int) 4 := ⟨(zw_in 628 (by decide +kernel) (by decide +kernel)), Or.inl (zw_in 625 (by decide +kernel) (by decide +kernel)), (zw_in 38 (by decide +kernel) (by decide +kernel)), by decide +kernel, by decide⟩
theorem zkyX8_into : Cond.instanceMethod yX8_into ∈ zw ∧ Cond.selects yX8_into.cls yX8_into yX8_into ∈ zw := ⟨(zw_in 626 (by decide +kernel) (by decide +kernel)), (zw_in 627 (by decide +kernel) (by decide +kernel))⟩
theorem zm_L_85 : zm RL 85 yX8_pass cX8_pass 7 (some .int) 3 := ⟨(zw_in 632 (by decide +kernel) (by decide +kernel)), Or.inl (zw_in 629 (by decide +kernel) (by decide +kernel)), (zw_in 38 (by decide +kernel) (by decide +kernel)), by decide +kernel, by decide⟩
theorem zkyX8_pass : Cond.instanceMethod yX8_pass ∈ zw ∧ Cond.selects yX8_pass.cls yX8_pass yX8_pass ∈ zw := ⟨(zw_in 630 (by decide +kernel) (by decide +kernel)), (zw_in 631 (by decide +kernel) (by decide +kernel))⟩
theorem zm_L_89 : zm RL 89 yX8_takes cX8_takes 2 (some .int) 1 := ⟨(zw_in 636 (by decide +kernel) (by decide +kernel)), Or.inl (zw_in 633 (by decide +kernel) (by decide +kernel)), (zw_in 38 (by decide +kernel) (by decide +kernel)), by decide +kernel, by decide⟩
theorem zkyX8_takes : Cond.instanceMethod yX8_takes ∈ zw ∧ Cond.selects yX8_takes.cls yX8_takes yX8_takes ∈ zw := ⟨(zw_in 634 (by decide +kernel) (by decide +kernel)), (zw_in 635 (by decide +kernel) (by decide +kernel))⟩
theorem zm_X8_162 : zm RX8 162 yX8_kinds cX8_kinds 7 (some .int) 2 := ⟨(zw_in 640 (by decide +kernel) (by decide +kernel)), Or.inl (zw_in 637 (by decide +kernel) (by decide +kernel)), (zw_in 38 (by decide +kernel) (by decide +kernel)), by decide +kernel, by decide⟩
theorem zkyX8_kinds : Cond.instanceMethod yX8_kinds ∈ zw ∧ Cond.selects yX8_kinds.cls yX8_kinds yX8_kinds ∈ zw := ⟨(zw_in 639 (by decide +kernel) (by decide +kernel)), (zw_in 30 (by decide +kernel) (by decide +kernel))⟩
theorem zm_X8_159 : zm RX8 159 yX8_firstFault cX8_firstFault 3 (some .int) 1 := ⟨(zw_in 644 (by decide +kernel) (by decide +kernel)), Or.inl (zw_in 641 (by decide +kernel) (by decide +kernel)), (zw_in 38 (by decide +kernel) (by decide +kernel)), by decide +kernel, by decide⟩
theorem zkyX8_firstFault : Cond.instanceMethod yX8_firstFault ∈ zw ∧ Cond.selects yX8_firstFault.cls yX8_firstFault yX8_firstFault ∈ zw := ⟨(zw_in 643 (by decide +kernel) (by decide +kernel)), (zw_in 31 (by decide +kernel) (by decide +kernel))⟩
theorem zm_L_93 : zm RL 93 yX8_gives cX8_gives 2 (some .int) 1 := ⟨(zw_in 648 (by decide +kernel) (by decide +kernel)), Or.inl (zw_in 645 (by decide +kernel) (by decide +kernel)), (zw_in 38 (by decide +kernel) (by decide +kernel)), by decide +kernel, by decide⟩
theorem zkyX8_gives : Cond.instanceMethod yX8_gives ∈ zw ∧ Cond.selects yX8_gives.cls yX8_gives yX8_gives ∈ zw := ⟨(zw_in 646 (by decide +kernel) (by decide +kernel)), (zw_in 647 (by decide +kernel) (by decide +kernel))⟩
theorem zm_L_98 : zm RL 98 yX8_step cX8_step 7 (some .int) 5 := ⟨(zw_in 652 (by decide +kernel) (by decide +kernel)), Or.inl (zw_in 649 (by decide +kernel) (by decide +kernel)), (zw_in 38 (by decide +kernel) (by decide +kernel)), by decide +kernel, by decide⟩
theorem zkyX8_step : Cond.instanceMethod yX8_step ∈ zw ∧ Cond.selects yX8_step.cls yX8_step yX8_step ∈ zw := ⟨(zw_in 650 (by decide +kernel) (by decide +kernel)), (zw_in 651 (by decide +kernel) (by decide +kernel))⟩
theorem zq_X8_166 : Cond.constantLong RX8 166 (5) ∈ zw := (zw_in 653 (by decide +kernel) (by decide +kernel))
theorem zq_X8_168 : Cond.constantLong RX8 168 (-1) ∈ zw := (zw_in 654 (by decide +kernel) (by decide +kernel))
theorem zm_L_102 : zm RL 102 yX8_run cX8_run 5 (some .int) 1 := ⟨(zw_in 658 (by decide +kernel) (by decide +kernel)), Or.inl (zw_in 655 (by decide +kernel) (by decide +kernel)), (zw_in 38 (by decide +kernel) (by decide +kernel)), by decide +kernel, by decide⟩
theorem zkyX8_run : Cond.instanceMethod yX8_run ∈ zw ∧ Cond.selects yX8_run.cls yX8_run yX8_run ∈ zw := ⟨(zw_in 656 (by decide +kernel) (by decide +kernel)), (zw_in 657 (by decide +kernel) (by decide +kernel))⟩
theorem zm_X8_179 : zm RX8 179 yX8_does cX8_does 5 (some .int) 1 := ⟨(zw_in 662 (by decide +kernel) (by decide +kernel)), Or.inl (zw_in 659 (by decide +kernel) (by decide +kernel)), (zw_in 38 (by decide +kernel) (by decide +kernel)), by decide +kernel, by decide⟩
theorem zkyX8_does : Cond.instanceMethod yX8_does ∈ zw ∧ Cond.selects yX8_does.cls yX8_does yX8_does ∈ zw := ⟨(zw_in 661 (by decide +kernel) (by decide +kernel)), (zw_in 32 (by decide +kernel) (by decide +kernel))⟩
theorem zm_X8_173 : zm RX8 173 yX8_moves cX8_moves 11 (some .int) 4 := ⟨(zw_in 666 (by decide +kernel) (by decide +kernel)), Or.inl (zw_in 663 (by decide +kernel) (by decide +kernel)), (zw_in 38 (by decide +kernel) (by decide +kernel)), by decide +kernel, by decide⟩
theorem zkyX8_moves : Cond.instanceMethod yX8_moves ∈ zw ∧ Cond.selects yX8_moves.cls yX8_moves yX8_moves ∈ zw := ⟨(zw_in 665 (by decide +kernel) (by decide +kernel)), (zw_in 33 (by decide +kernel) (by decide +kernel))⟩
theorem zm_L_106 : zm RL 106 yX8_met cX8_met 2 (some .int) 1 := ⟨(zw_in 670 (by decide +kernel) (by decide +kernel)), Or.inl (zw_in 667 (by decide +kernel) (by decide +kernel)), (zw_in 38 (by decide +kernel) (by decide +kernel)), by decide +kernel, by decide⟩
theorem zkyX8_met : Cond.instanceMethod yX8_met ∈ zw ∧ Cond.selects yX8_met.cls yX8_met yX8_met ∈ zw := ⟨(zw_in 668 (by decide +kernel) (by decide +kernel)), (zw_in 669 (by decide +kernel) (by decide +kernel))⟩
theorem zm_L_110 : zm RL 110 yX8_clear cX8_clear 2 (some .int) 0 := ⟨(zw_in 674 (by decide +kernel) (by decide +kernel)), Or.inl (zw_in 671 (by decide +kernel) (by decide +kernel)), (zw_in 38 (by decide +kernel) (by decide +kernel)), by decide +kernel, by decide⟩
theorem zkyX8_clear : Cond.instanceMethod yX8_clear ∈ zw ∧ Cond.selects yX8_clear.cls yX8_clear yX8_clear ∈ zw := ⟨(zw_in 672 (by decide +kernel) (by decide +kernel)), (zw_in 673 (by decide +kernel) (by decide +kernel))⟩
theorem zm_L_114 : zm RL 114 yX8_fault cX8_fault 1 (some .int) 0 := ⟨(zw_in 678 (by decide +kernel) (by decide +kernel)), Or.inl (zw_in 675 (by decide +kernel) (by decide +kernel)), (zw_in 38 (by decide +kernel) (by decide +kernel)), by decide +kernel, by decide⟩
theorem zkyX8_fault : Cond.instanceMethod yX8_fault ∈ zw ∧ Cond.selects yX8_fault.cls yX8_fault yX8_fault ∈ zw := ⟨(zw_in 676 (by decide +kernel) (by decide +kernel)), (zw_in 677 (by decide +kernel) (by decide +kernel))⟩
theorem zm_L_118 : zm RL 118 yX8_faults cX8_faults 2 (some .int) 1 := ⟨(zw_in 682 (by decide +kernel) (by decide +kernel)), Or.inl (zw_in 679 (by decide +kernel) (by decide +kernel)), (zw_in 38 (by decide +kernel) (by decide +kernel)), by decide +kernel, by decide⟩
theorem zkyX8_faults : Cond.instanceMethod yX8_faults ∈ zw ∧ Cond.selects yX8_faults.cls yX8_faults yX8_faults ∈ zw := ⟨(zw_in 680 (by decide +kernel) (by decide +kernel)), (zw_in 681 (by decide +kernel) (by decide +kernel))⟩
theorem zq_X8_182 : Cond.constantLong RX8 182 (3) ∈ zw := (zw_in 683 (by decide +kernel) (by decide +kernel))
theorem zm_L_122 : zm RL 122 yX8_has cX8_has 1 (some .int) 0 := ⟨(zw_in 549 (by decide +kernel) (by decide +kernel)), Or.inl (zw_in 684 (by decide +kernel) (by decide +kernel)), (zw_in 38 (by decide +kernel) (by decide +kernel)), by decide +kernel, by decide⟩
theorem zm_L_127 : zm RL 127 yX8_value cX8_value 1 (some .long) 0 := ⟨(zw_in 688 (by decide +kernel) (by decide +kernel)), Or.inl (zw_in 685 (by decide +kernel) (by decide +kernel)), (zw_in 38 (by decide +kernel) (by decide +kernel)), by decide +kernel, by decide⟩
theorem zkyX8_value : Cond.instanceMethod yX8_value ∈ zw ∧ Cond.selects yX8_value.cls yX8_value yX8_value ∈ zw := ⟨(zw_in 686 (by decide +kernel) (by decide +kernel)), (zw_in 687 (by decide +kernel) (by decide +kernel))⟩
theorem zm_L_131 : zm RL 131 yX8_told cX8_told 3 (some .int) 1 := ⟨(zw_in 692 (by decide +kernel) (by decide +kernel)), Or.inl (zw_in 689 (by decide +kernel) (by decide +kernel)), (zw_in 38 (by decide +kernel) (by decide +kernel)), by decide +kernel, by decide⟩
theorem zkyX8_told : Cond.instanceMethod yX8_told ∈ zw ∧ Cond.selects yX8_told.cls yX8_told yX8_told ∈ zw := ⟨(zw_in 690 (by decide +kernel) (by decide +kernel)), (zw_in 691 (by decide +kernel) (by decide +kernel))⟩
theorem zm_L_135 : zm RL 135 yX8_same cX8_same 4 (some .int) 1 := ⟨(zw_in 696 (by decide +kernel) (by decide +kernel)), Or.inl (zw_in 693 (by decide +kernel) (by decide +kernel)), (zw_in 38 (by decide +kernel) (by decide +kernel)), by decide +kernel, by decide⟩
theorem zkyX8_same : Cond.instanceMethod yX8_same ∈ zw ∧ Cond.selects yX8_same.cls yX8_same yX8_same ∈ zw := ⟨(zw_in 694 (by decide +kernel) (by decide +kernel)), (zw_in 695 (by decide +kernel) (by decide +kernel))⟩
theorem zq_L_32 : Cond.constantLong RL 32 (4294967295) ∈ zw := (zw_in 697 (by decide +kernel) (by decide +kernel))
theorem zo_i : Cond.instanceMethod objectInit ∈ zw := (zw_in 50 (by decide +kernel) (by decide +kernel))
theorem zo_c : Cond.code objectInit ⟨#[0xb1]⟩ 1 none ∈ zw := (zw_in 51 (by decide +kernel) (by decide +kernel))
end
section
theorem dX0_init_0 : decode cX0_init 0 = .ok (.aload_n 0, 1) := by decide +kernel
theorem dX0_init_1 : decode cX0_init 1 = .ok (.invokespecial 3, 3) := by decide +kernel
theorem dX0_init_4 : decode cX0_init 4 = .ok (.aload_n 0, 1) := by decide +kernel
theorem dX0_init_5 : decode cX0_init 5 = .ok (.bipush (-9), 2) := by decide +kernel
theorem dX0_init_7 : decode cX0_init 7 = .ok (.putfield 9, 3) := by decide +kernel
theorem dX0_init_10 : decode cX0_init 10 = .ok (.return_, 1) := by decide +kernel
theorem dX0_holdNumber_0 : decode cX0_holdNumber 0 = .ok (.aload_n 0, 1) := by decide +kernel
theorem dX0_holdNumber_1 : decode cX0_holdNumber 1 = .ok (.iload_n 1, 1) := by decide +kernel
theorem dX0_holdNumber_2 : decode cX0_holdNumber 2 = .ok (.putfield 9, 3) := by decide +kernel
theorem dX0_holdNumber_5 : decode cX0_holdNumber 5 = .ok (.aload_n 0, 1) := by decide +kernel
theorem dX0_holdNumber_6 : decode cX0_holdNumber 6 = .ok (.iload_n 1, 1) := by decide +kernel
theorem dX0_holdNumber_7 : decode cX0_holdNumber 7 = .ok (.lload_n 2, 1) := by decide +kernel
theorem dX0_holdNumber_8 : decode cX0_holdNumber 8 = .ok (.invokestatic 15, 3) := by decide +kernel
theorem dX0_holdNumber_11 : decode cX0_holdNumber 11 = .ok (.putfield 19, 3) := by decide +kernel
theorem dX0_holdNumber_14 : decode cX0_holdNumber 14 = .ok (.aload_n 0, 1) := by decide +kernel
theorem dX0_holdNumber_15 : decode cX0_holdNumber 15 = .ok (.aconst_null, 1) := by decide +kernel
theorem dX0_holdNumber_16 : decode cX0_holdNumber 16 = .ok (.putfield 23, 3) := by decide +kernel
theorem dX0_holdNumber_19 : decode cX0_holdNumber 19 = .ok (.return_, 1) := by decide +kernel
theorem dX0_holdThing_0 : decode cX0_holdThing 0 = .ok (.aload_n 0, 1) := by decide +kernel
theorem dX0_holdThing_1 : decode cX0_holdThing 1 = .ok (.aload_n 1, 1) := by decide +kernel
theorem dX0_holdThing_2 : decode cX0_holdThing 2 = .ok (.putfield 23, 3) := by decide +kernel
theorem dX0_holdThing_5 : decode cX0_holdThing 5 = .ok (.aload_n 1, 1) := by decide +kernel
theorem dX0_holdThing_6 : decode cX0_holdThing 6 = .ok (.instanceof 27, 3) := by decide +kernel
theorem dX0_holdThing_9 : decode cX0_holdThing 9 = .ok (.ifCond .eq 38, 3) := by decide +kernel
theorem dX0_holdThing_12 : decode cX0_holdThing 12 = .ok (.aload_n 1, 1) := by decide +kernel
theorem dX0_holdThing_13 : decode cX0_holdThing 13 = .ok (.checkcast 27, 3) := by decide +kernel
theorem dX0_holdThing_16 : decode cX0_holdThing 16 = .ok (.astore_n 2, 1) := by decide +kernel
theorem dX0_holdThing_17 : decode cX0_holdThing 17 = .ok (.aload_n 0, 1) := by decide +kernel
theorem dX0_holdThing_18 : decode cX0_holdThing 18 = .ok (.aload_n 2, 1) := by decide +kernel
theorem dX0_holdThing_19 : decode cX0_holdThing 19 = .ok (.getfield 29, 3) := by decide +kernel
theorem dX0_holdThing_22 : decode cX0_holdThing 22 = .ok (.ifCond .eq 8, 3) := by decide +kernel
theorem dX0_holdThing_25 : decode cX0_holdThing 25 = .ok (.bipush 9, 2) := by decide +kernel
theorem dX0_holdThing_27 : decode cX0_holdThing 27 = .ok (.goto 5, 3) := by decide +kernel
theorem dX0_holdThing_30 : decode cX0_holdThing 30 = .ok (.bipush 8, 2) := by decide +kernel
theorem dX0_holdThing_32 : decode cX0_holdThing 32 = .ok (.putfield 9, 3) := by decide +kernel
theorem dX0_holdThing_35 : decode cX0_holdThing 35 = .ok (.aload_n 0, 1) := by decide +kernel
theorem dX0_holdThing_36 : decode cX0_holdThing 36 = .ok (.aload_n 2, 1) := by decide +kernel
theorem dX0_holdThing_37 : decode cX0_holdThing 37 = .ok (.getfield 33, 3) := by decide +kernel
theorem dX0_holdThing_40 : decode cX0_holdThing 40 = .ok (.i2l, 1) := by decide +kernel
theorem dX0_holdThing_41 : decode cX0_holdThing 41 = .ok (.putfield 19, 3) := by decide +kernel
theorem dX0_holdThing_44 : decode cX0_holdThing 44 = .ok (.goto 44, 3) := by decide +kernel
theorem dX0_holdThing_47 : decode cX0_holdThing 47 = .ok (.aload_n 1, 1) := by decide +kernel
theorem dX0_holdThing_48 : decode cX0_holdThing 48 = .ok (.instanceof 36, 3) := by decide +kernel
theorem dX0_holdThing_51 : decode cX0_holdThing 51 = .ok (.ifCond .eq 26, 3) := by decide +kernel
theorem dX0_holdThing_54 : decode cX0_holdThing 54 = .ok (.aload_n 1, 1) := by decide +kernel
theorem dX0_holdThing_55 : decode cX0_holdThing 55 = .ok (.checkcast 36, 3) := by decide +kernel
theorem dX0_holdThing_58 : decode cX0_holdThing 58 = .ok (.astore_n 3, 1) := by decide +kernel
theorem dX0_holdThing_59 : decode cX0_holdThing 59 = .ok (.aload_n 0, 1) := by decide +kernel
theorem dX0_holdThing_60 : decode cX0_holdThing 60 = .ok (.bipush 10, 2) := by decide +kernel
theorem dX0_holdThing_62 : decode cX0_holdThing 62 = .ok (.putfield 9, 3) := by decide +kernel
theorem dX0_holdThing_65 : decode cX0_holdThing 65 = .ok (.aload_n 0, 1) := by decide +kernel
theorem dX0_holdThing_66 : decode cX0_holdThing 66 = .ok (.aload_n 3, 1) := by decide +kernel
theorem dX0_holdThing_67 : decode cX0_holdThing 67 = .ok (.getfield 38, 3) := by decide +kernel
theorem dX0_holdThing_70 : decode cX0_holdThing 70 = .ok (.i2l, 1) := by decide +kernel
theorem dX0_holdThing_71 : decode cX0_holdThing 71 = .ok (.putfield 19, 3) := by decide +kernel
theorem dX0_holdThing_74 : decode cX0_holdThing 74 = .ok (.goto 14, 3) := by decide +kernel
theorem dX0_holdThing_77 : decode cX0_holdThing 77 = .ok (.aload_n 0, 1) := by decide +kernel
theorem dX0_holdThing_78 : decode cX0_holdThing 78 = .ok (.bipush (-9), 2) := by decide +kernel
theorem dX0_holdThing_80 : decode cX0_holdThing 80 = .ok (.putfield 9, 3) := by decide +kernel
theorem dX0_holdThing_83 : decode cX0_holdThing 83 = .ok (.aload_n 0, 1) := by decide +kernel
theorem dX0_holdThing_84 : decode cX0_holdThing 84 = .ok (.lconst 0, 1) := by decide +kernel
theorem dX0_holdThing_85 : decode cX0_holdThing 85 = .ok (.putfield 19, 3) := by decide +kernel
theorem dX0_holdThing_88 : decode cX0_holdThing 88 = .ok (.return_, 1) := by decide +kernel
theorem dX1_init_0 : decode cX1_init 0 = .ok (.aload_n 0, 1) := by decide +kernel
theorem dX1_init_1 : decode cX1_init 1 = .ok (.iload_n 1, 1) := by decide +kernel
theorem dX1_init_2 : decode cX1_init 2 = .ok (.iload_n 2, 1) := by decide +kernel
theorem dX1_init_3 : decode cX1_init 3 = .ok (.invokespecial 1, 3) := by decide +kernel
theorem dX1_init_6 : decode cX1_init 6 = .ok (.aload_n 0, 1) := by decide +kernel
theorem dX1_init_7 : decode cX1_init 7 = .ok (.iload_n 2, 1) := by decide +kernel
theorem dX1_init_8 : decode cX1_init 8 = .ok (.newarray .long, 2) := by decide +kernel
theorem dX1_init_10 : decode cX1_init 10 = .ok (.putfield 7, 3) := by decide +kernel
theorem dX1_init_13 : decode cX1_init 13 = .ok (.return_, 1) := by decide +kernel
theorem dX2_init_0 : decode cX2_init 0 = .ok (.aload_n 0, 1) := by decide +kernel
theorem dX2_init_1 : decode cX2_init 1 = .ok (.invokespecial 1, 3) := by decide +kernel
theorem dX2_init_4 : decode cX2_init 4 = .ok (.aload_n 0, 1) := by decide +kernel
theorem dX2_init_5 : decode cX2_init 5 = .ok (.iload_n 1, 1) := by decide +kernel
theorem dX2_init_6 : decode cX2_init 6 = .ok (.putfield 7, 3) := by decide +kernel
theorem dX2_init_9 : decode cX2_init 9 = .ok (.aload_n 0, 1) := by decide +kernel
theorem dX2_init_10 : decode cX2_init 10 = .ok (.iload_n 2, 1) := by decide +kernel
theorem dX2_init_11 : decode cX2_init 11 = .ok (.putfield 13, 3) := by decide +kernel
theorem dX2_init_14 : decode cX2_init 14 = .ok (.return_, 1) := by decide +kernel
theorem dX3_init_0 : decode cX3_init 0 = .ok (.aload_n 0, 1) := by decide +kernel
theorem dX3_init_1 : decode cX3_init 1 = .ok (.invokespecial 1, 3) := by decide +kernel
theorem dX3_init_4 : decode cX3_init 4 = .ok (.aload_n 0, 1) := by decide +kernel
theorem dX3_init_5 : decode cX3_init 5 = .ok (.iload_n 1, 1) := by decide +kernel
theorem dX3_init_6 : decode cX3_init 6 = .ok (.putfield 7, 3) := by decide +kernel
theorem dX3_init_9 : decode cX3_init 9 = .ok (.aload_n 0, 1) := by decide +kernel
theorem dX3_init_10 : decode cX3_init 10 = .ok (.iload_n 2, 1) := by decide +kernel
theorem dX3_init_11 : decode cX3_init 11 = .ok (.putfield 13, 3) := by decide +kernel
theorem dX3_init_14 : decode cX3_init 14 = .ok (.return_, 1) := by decide +kernel
theorem dX4_init_0 : decode cX4_init 0 = .ok (.aload_n 0, 1) := by decide +kernel
theorem dX4_init_1 : decode cX4_init 1 = .ok (.invokespecial 3, 3) := by decide +kernel
theorem dX4_init_4 : decode cX4_init 4 = .ok (.return_, 1) := by decide +kernel
theorem dX4_become_0 : decode cX4_become 0 = .ok (.aload_n 0, 1) := by decide +kernel
theorem dX4_become_1 : decode cX4_become 1 = .ok (.iload_n 1, 1) := by decide +kernel
theorem dX4_become_2 : decode cX4_become 2 = .ok (.putfield 9, 3) := by decide +kernel
theorem dX4_become_5 : decode cX4_become 5 = .ok (.aload_n 0, 1) := by decide +kernel
theorem dX4_become_6 : decode cX4_become 6 = .ok (.iload_n 2, 1) := by decide +kernel
theorem dX4_become_7 : decode cX4_become 7 = .ok (.putfield 15, 3) := by decide +kernel
theorem dX4_become_10 : decode cX4_become 10 = .ok (.aload_n 0, 1) := by decide +kernel
theorem dX4_become_11 : decode cX4_become 11 = .ok (.iload_n 3, 1) := by decide +kernel
theorem dX4_become_12 : decode cX4_become 12 = .ok (.putfield 18, 3) := by decide +kernel
theorem dX4_become_15 : decode cX4_become 15 = .ok (.aload_n 0, 1) := by decide +kernel
theorem dX4_become_16 : decode cX4_become 16 = .ok (.iload 4, 2) := by decide +kernel
theorem dX4_become_18 : decode cX4_become 18 = .ok (.putfield 21, 3) := by decide +kernel
theorem dX4_become_21 : decode cX4_become 21 = .ok (.aload_n 0, 1) := by decide +kernel
theorem dX4_become_22 : decode cX4_become 22 = .ok (.iload 5, 2) := by decide +kernel
theorem dX4_become_24 : decode cX4_become 24 = .ok (.putfield 24, 3) := by decide +kernel
theorem dX4_become_27 : decode cX4_become 27 = .ok (.aload_n 0, 1) := by decide +kernel
theorem dX4_become_28 : decode cX4_become 28 = .ok (.bipush (-9), 2) := by decide +kernel
theorem dX4_become_30 : decode cX4_become 30 = .ok (.putfield 27, 3) := by decide +kernel
theorem dX4_become_33 : decode cX4_become 33 = .ok (.return_, 1) := by decide +kernel
theorem dX5_init_0 : decode cX5_init 0 = .ok (.aload_n 0, 1) := by decide +kernel
theorem dX5_init_1 : decode cX5_init 1 = .ok (.invokespecial 1, 3) := by decide +kernel
theorem dX5_init_4 : decode cX5_init 4 = .ok (.return_, 1) := by decide +kernel
theorem dX6_init_0 : decode cX6_init 0 = .ok (.aload_n 0, 1) := by decide +kernel
theorem dX6_init_1 : decode cX6_init 1 = .ok (.iload_n 1, 1) := by decide +kernel
theorem dX6_init_2 : decode cX6_init 2 = .ok (.iload_n 2, 1) := by decide +kernel
theorem dX6_init_3 : decode cX6_init 3 = .ok (.invokespecial 1, 3) := by decide +kernel
theorem dX6_init_6 : decode cX6_init 6 = .ok (.aload_n 0, 1) := by decide +kernel
theorem dX6_init_7 : decode cX6_init 7 = .ok (.iload_n 2, 1) := by decide +kernel
theorem dX6_init_8 : decode cX6_init 8 = .ok (.anewarray 7, 3) := by decide +kernel
theorem dX6_init_11 : decode cX6_init 11 = .ok (.putfield 9, 3) := by decide +kernel
theorem dX6_init_14 : decode cX6_init 14 = .ok (.return_, 1) := by decide +kernel
theorem dX7_init_0 : decode cX7_init 0 = .ok (.aload_n 0, 1) := by decide +kernel
theorem dX7_init_1 : decode cX7_init 1 = .ok (.invokespecial 1, 3) := by decide +kernel
theorem dX7_init_4 : decode cX7_init 4 = .ok (.aload_n 0, 1) := by decide +kernel
theorem dX7_init_5 : decode cX7_init 5 = .ok (.bipush 10, 2) := by decide +kernel
theorem dX7_init_7 : decode cX7_init 7 = .ok (.anewarray 9, 3) := by decide +kernel
theorem dX7_init_10 : decode cX7_init 10 = .ok (.putfield 11, 3) := by decide +kernel
theorem dX7_init_13 : decode cX7_init 13 = .ok (.aload_n 0, 1) := by decide +kernel
theorem dX7_init_14 : decode cX7_init 14 = .ok (.new 15, 3) := by decide +kernel
theorem dX7_init_17 : decode cX7_init 17 = .ok (.dup, 1) := by decide +kernel
theorem dX7_init_18 : decode cX7_init 18 = .ok (.invokespecial 17, 3) := by decide +kernel
theorem dX7_init_21 : decode cX7_init 21 = .ok (.putfield 18, 3) := by decide +kernel
theorem dX7_init_24 : decode cX7_init 24 = .ok (.aload_n 0, 1) := by decide +kernel
theorem dX7_init_25 : decode cX7_init 25 = .ok (.new 15, 3) := by decide +kernel
theorem dX7_init_28 : decode cX7_init 28 = .ok (.dup, 1) := by decide +kernel
theorem dX7_init_29 : decode cX7_init 29 = .ok (.invokespecial 17, 3) := by decide +kernel
theorem dX7_init_32 : decode cX7_init 32 = .ok (.putfield 22, 3) := by decide +kernel
theorem dX7_init_35 : decode cX7_init 35 = .ok (.aload_n 0, 1) := by decide +kernel
theorem dX7_init_36 : decode cX7_init 36 = .ok (.bipush 12, 2) := by decide +kernel
theorem dX7_init_38 : decode cX7_init 38 = .ok (.anewarray 25, 3) := by decide +kernel
theorem dX7_init_41 : decode cX7_init 41 = .ok (.putfield 27, 3) := by decide +kernel
theorem dX7_init_44 : decode cX7_init 44 = .ok (.iconst 0, 1) := by decide +kernel
theorem dX7_init_45 : decode cX7_init 45 = .ok (.istore_n 1, 1) := by decide +kernel
theorem dX7_init_46 : decode cX7_init 46 = .ok (.iload_n 1, 1) := by decide +kernel
theorem dX7_init_47 : decode cX7_init 47 = .ok (.bipush 12, 2) := by decide +kernel
theorem dX7_init_49 : decode cX7_init 49 = .ok (.if_icmp .ge 22, 3) := by decide +kernel
theorem dX7_init_52 : decode cX7_init 52 = .ok (.aload_n 0, 1) := by decide +kernel
theorem dX7_init_53 : decode cX7_init 53 = .ok (.getfield 27, 3) := by decide +kernel
theorem dX7_init_56 : decode cX7_init 56 = .ok (.iload_n 1, 1) := by decide +kernel
theorem dX7_init_57 : decode cX7_init 57 = .ok (.new 25, 3) := by decide +kernel
theorem dX7_init_60 : decode cX7_init 60 = .ok (.dup, 1) := by decide +kernel
theorem dX7_init_61 : decode cX7_init 61 = .ok (.invokespecial 31, 3) := by decide +kernel
theorem dX7_init_64 : decode cX7_init 64 = .ok (.aastore, 1) := by decide +kernel
theorem dX7_init_65 : decode cX7_init 65 = .ok (.iinc 1 1, 3) := by decide +kernel
theorem dX7_init_68 : decode cX7_init 68 = .ok (.goto (-22), 3) := by decide +kernel
theorem dX7_init_71 : decode cX7_init 71 = .ok (.aload_n 0, 1) := by decide +kernel
theorem dX7_init_72 : decode cX7_init 72 = .ok (.iconst 4, 1) := by decide +kernel
theorem dX7_init_73 : decode cX7_init 73 = .ok (.newarray .int, 2) := by decide +kernel
theorem dX7_init_75 : decode cX7_init 75 = .ok (.putfield 32, 3) := by decide +kernel
theorem dX7_init_78 : decode cX7_init 78 = .ok (.return_, 1) := by decide +kernel
theorem dX7_rack_0 : decode cX7_rack 0 = .ok (.iload_n 1, 1) := by decide +kernel
theorem dX7_rack_1 : decode cX7_rack 1 = .ok (.invokestatic 36, 3) := by decide +kernel
theorem dX7_rack_4 : decode cX7_rack 4 = .ok (.ifCond .ne 5, 3) := by decide +kernel
theorem dX7_rack_7 : decode cX7_rack 7 = .ok (.iconst (-1), 1) := by decide +kernel
theorem dX7_rack_8 : decode cX7_rack 8 = .ok (.ireturn, 1) := by decide +kernel
theorem dX7_rack_9 : decode cX7_rack 9 = .ok (.iload_n 2, 1) := by decide +kernel
theorem dX7_rack_10 : decode cX7_rack 10 = .ok (.ifCond .lt 19, 3) := by decide +kernel
theorem dX7_rack_13 : decode cX7_rack 13 = .ok (.iload_n 2, 1) := by decide +kernel
theorem dX7_rack_14 : decode cX7_rack 14 = .ok (.bipush 11, 2) := by decide +kernel
theorem dX7_rack_16 : decode cX7_rack 16 = .ok (.if_icmp .ge 13, 3) := by decide +kernel
theorem dX7_rack_19 : decode cX7_rack 19 = .ok (.iload_n 3, 1) := by decide +kernel
theorem dX7_rack_20 : decode cX7_rack 20 = .ok (.ifCond .lt 9, 3) := by decide +kernel
theorem dX7_rack_23 : decode cX7_rack 23 = .ok (.iload_n 3, 1) := by decide +kernel
theorem dX7_rack_24 : decode cX7_rack 24 = .ok (.bipush 16, 2) := by decide +kernel
theorem dX7_rack_26 : decode cX7_rack 26 = .ok (.if_icmp .le 6, 3) := by decide +kernel
theorem dX7_rack_29 : decode cX7_rack 29 = .ok (.bipush (-2), 2) := by decide +kernel
theorem dX7_rack_31 : decode cX7_rack 31 = .ok (.ireturn, 1) := by decide +kernel
theorem dX7_rack_32 : decode cX7_rack 32 = .ok (.iload_n 2, 1) := by decide +kernel
theorem dX7_rack_33 : decode cX7_rack 33 = .ok (.invokestatic 40, 3) := by decide +kernel
theorem dX7_rack_36 : decode cX7_rack 36 = .ok (.ifCond .eq 21, 3) := by decide +kernel
theorem dX7_rack_39 : decode cX7_rack 39 = .ok (.aload_n 0, 1) := by decide +kernel
theorem dX7_rack_40 : decode cX7_rack 40 = .ok (.getfield 11, 3) := by decide +kernel
theorem dX7_rack_43 : decode cX7_rack 43 = .ok (.iload_n 1, 1) := by decide +kernel
theorem dX7_rack_44 : decode cX7_rack 44 = .ok (.new 43, 3) := by decide +kernel
theorem dX7_rack_47 : decode cX7_rack 47 = .ok (.dup, 1) := by decide +kernel
theorem dX7_rack_48 : decode cX7_rack 48 = .ok (.iload_n 2, 1) := by decide +kernel
theorem dX7_rack_49 : decode cX7_rack 49 = .ok (.iload_n 3, 1) := by decide +kernel
theorem dX7_rack_50 : decode cX7_rack 50 = .ok (.invokespecial 45, 3) := by decide +kernel
theorem dX7_rack_53 : decode cX7_rack 53 = .ok (.aastore, 1) := by decide +kernel
theorem dX7_rack_54 : decode cX7_rack 54 = .ok (.goto 18, 3) := by decide +kernel
theorem dX7_rack_57 : decode cX7_rack 57 = .ok (.aload_n 0, 1) := by decide +kernel
theorem dX7_rack_58 : decode cX7_rack 58 = .ok (.getfield 11, 3) := by decide +kernel
theorem dX7_rack_61 : decode cX7_rack 61 = .ok (.iload_n 1, 1) := by decide +kernel
theorem dX7_rack_62 : decode cX7_rack 62 = .ok (.new 48, 3) := by decide +kernel
theorem dX7_rack_65 : decode cX7_rack 65 = .ok (.dup, 1) := by decide +kernel
theorem dX7_rack_66 : decode cX7_rack 66 = .ok (.iload_n 2, 1) := by decide +kernel
theorem dX7_rack_67 : decode cX7_rack 67 = .ok (.iload_n 3, 1) := by decide +kernel
theorem dX7_rack_68 : decode cX7_rack 68 = .ok (.invokespecial 50, 3) := by decide +kernel
theorem dX7_rack_71 : decode cX7_rack 71 = .ok (.aastore, 1) := by decide +kernel
theorem dX7_rack_72 : decode cX7_rack 72 = .ok (.iload_n 3, 1) := by decide +kernel
theorem dX7_rack_73 : decode cX7_rack 73 = .ok (.ireturn, 1) := by decide +kernel
theorem dX7_hang_0 : decode cX7_hang 0 = .ok (.iload_n 1, 1) := by decide +kernel
theorem dX7_hang_1 : decode cX7_hang 1 = .ok (.invokestatic 36, 3) := by decide +kernel
theorem dX7_hang_4 : decode cX7_hang 4 = .ok (.ifCond .ne 5, 3) := by decide +kernel
theorem dX7_hang_7 : decode cX7_hang 7 = .ok (.iconst (-1), 1) := by decide +kernel
theorem dX7_hang_8 : decode cX7_hang 8 = .ok (.ireturn, 1) := by decide +kernel
theorem dX7_hang_9 : decode cX7_hang 9 = .ok (.aload_n 0, 1) := by decide +kernel
theorem dX7_hang_10 : decode cX7_hang 10 = .ok (.getfield 18, 3) := by decide +kernel
theorem dX7_hang_13 : decode cX7_hang 13 = .ok (.getfield 51, 3) := by decide +kernel
theorem dX7_hang_16 : decode cX7_hang 16 = .ok (.ifnonnull 6, 3) := by decide +kernel
theorem dX7_hang_19 : decode cX7_hang 19 = .ok (.bipush (-3), 2) := by decide +kernel
theorem dX7_hang_21 : decode cX7_hang 21 = .ok (.ireturn, 1) := by decide +kernel
theorem dX7_hang_22 : decode cX7_hang 22 = .ok (.aload_n 0, 1) := by decide +kernel
theorem dX7_hang_23 : decode cX7_hang 23 = .ok (.getfield 11, 3) := by decide +kernel
theorem dX7_hang_26 : decode cX7_hang 26 = .ok (.iload_n 1, 1) := by decide +kernel
theorem dX7_hang_27 : decode cX7_hang 27 = .ok (.aload_n 0, 1) := by decide +kernel
theorem dX7_hang_28 : decode cX7_hang 28 = .ok (.getfield 18, 3) := by decide +kernel
theorem dX7_hang_31 : decode cX7_hang 31 = .ok (.getfield 51, 3) := by decide +kernel
theorem dX7_hang_34 : decode cX7_hang 34 = .ok (.aastore, 1) := by decide +kernel
theorem dX7_hang_35 : decode cX7_hang 35 = .ok (.iconst 1, 1) := by decide +kernel
theorem dX7_hang_36 : decode cX7_hang 36 = .ok (.ireturn, 1) := by decide +kernel
theorem dX7_share_0 : decode cX7_share 0 = .ok (.iload_n 1, 1) := by decide +kernel
theorem dX7_share_1 : decode cX7_share 1 = .ok (.invokestatic 36, 3) := by decide +kernel
theorem dX7_share_4 : decode cX7_share 4 = .ok (.ifCond .eq 10, 3) := by decide +kernel
theorem dX7_share_7 : decode cX7_share 7 = .ok (.iload_n 2, 1) := by decide +kernel
theorem dX7_share_8 : decode cX7_share 8 = .ok (.invokestatic 36, 3) := by decide +kernel
theorem dX7_share_11 : decode cX7_share 11 = .ok (.ifCond .ne 5, 3) := by decide +kernel
theorem dX7_share_14 : decode cX7_share 14 = .ok (.iconst (-1), 1) := by decide +kernel
theorem dX7_share_15 : decode cX7_share 15 = .ok (.ireturn, 1) := by decide +kernel
theorem dX7_share_16 : decode cX7_share 16 = .ok (.aload_n 0, 1) := by decide +kernel
theorem dX7_share_17 : decode cX7_share 17 = .ok (.getfield 11, 3) := by decide +kernel
theorem dX7_share_20 : decode cX7_share 20 = .ok (.iload_n 1, 1) := by decide +kernel
theorem dX7_share_21 : decode cX7_share 21 = .ok (.aload_n 0, 1) := by decide +kernel
theorem dX7_share_22 : decode cX7_share 22 = .ok (.getfield 11, 3) := by decide +kernel
theorem dX7_share_25 : decode cX7_share 25 = .ok (.iload_n 2, 1) := by decide +kernel
theorem dX7_share_26 : decode cX7_share 26 = .ok (.aaload, 1) := by decide +kernel
theorem dX7_share_27 : decode cX7_share 27 = .ok (.aastore, 1) := by decide +kernel
theorem dX7_share_28 : decode cX7_share 28 = .ok (.iconst 1, 1) := by decide +kernel
theorem dX7_share_29 : decode cX7_share 29 = .ok (.ireturn, 1) := by decide +kernel
theorem dX7_empty_0 : decode cX7_empty 0 = .ok (.iload_n 1, 1) := by decide +kernel
theorem dX7_empty_1 : decode cX7_empty 1 = .ok (.invokestatic 36, 3) := by decide +kernel
theorem dX7_empty_4 : decode cX7_empty 4 = .ok (.ifCond .ne 5, 3) := by decide +kernel
theorem dX7_empty_7 : decode cX7_empty 7 = .ok (.iconst (-1), 1) := by decide +kernel
theorem dX7_empty_8 : decode cX7_empty 8 = .ok (.ireturn, 1) := by decide +kernel
theorem dX7_empty_9 : decode cX7_empty 9 = .ok (.aload_n 0, 1) := by decide +kernel
theorem dX7_empty_10 : decode cX7_empty 10 = .ok (.getfield 11, 3) := by decide +kernel
theorem dX7_empty_13 : decode cX7_empty 13 = .ok (.iload_n 1, 1) := by decide +kernel
theorem dX7_empty_14 : decode cX7_empty 14 = .ok (.aconst_null, 1) := by decide +kernel
theorem dX7_empty_15 : decode cX7_empty 15 = .ok (.aastore, 1) := by decide +kernel
theorem dX7_empty_16 : decode cX7_empty 16 = .ok (.iconst 1, 1) := by decide +kernel
theorem dX7_empty_17 : decode cX7_empty 17 = .ok (.ireturn, 1) := by decide +kernel
theorem dX7_gauge_0 : decode cX7_gauge 0 = .ok (.iload_n 1, 1) := by decide +kernel
theorem dX7_gauge_1 : decode cX7_gauge 1 = .ok (.invokestatic 40, 3) := by decide +kernel
theorem dX7_gauge_4 : decode cX7_gauge 4 = .ok (.ifCond .ne 6, 3) := by decide +kernel
theorem dX7_gauge_7 : decode cX7_gauge 7 = .ok (.bipush (-2), 2) := by decide +kernel
theorem dX7_gauge_9 : decode cX7_gauge 9 = .ok (.ireturn, 1) := by decide +kernel
theorem dX7_gauge_10 : decode cX7_gauge 10 = .ok (.aload_n 0, 1) := by decide +kernel
theorem dX7_gauge_11 : decode cX7_gauge 11 = .ok (.getfield 18, 3) := by decide +kernel
theorem dX7_gauge_14 : decode cX7_gauge 14 = .ok (.iload_n 1, 1) := by decide +kernel
theorem dX7_gauge_15 : decode cX7_gauge 15 = .ok (.lload_n 2, 1) := by decide +kernel
theorem dX7_gauge_16 : decode cX7_gauge 16 = .ok (.invokevirtual 55, 3) := by decide +kernel
theorem dX7_gauge_19 : decode cX7_gauge 19 = .ok (.iconst 1, 1) := by decide +kernel
theorem dX7_gauge_20 : decode cX7_gauge 20 = .ok (.ireturn, 1) := by decide +kernel
theorem dX7_probe_0 : decode cX7_probe 0 = .ok (.aload_n 0, 1) := by decide +kernel
theorem dX7_probe_1 : decode cX7_probe 1 = .ok (.getfield 59, 3) := by decide +kernel
theorem dX7_probe_4 : decode cX7_probe 4 = .ok (.bipush 40, 2) := by decide +kernel
theorem dX7_probe_6 : decode cX7_probe 6 = .ok (.if_icmp .lt 6, 3) := by decide +kernel
theorem dX7_probe_9 : decode cX7_probe 9 = .ok (.bipush (-4), 2) := by decide +kernel
theorem dX7_probe_11 : decode cX7_probe 11 = .ok (.ireturn, 1) := by decide +kernel
theorem dX7_probe_12 : decode cX7_probe 12 = .ok (.aload_n 0, 1) := by decide +kernel
theorem dX7_probe_13 : decode cX7_probe 13 = .ok (.dup, 1) := by decide +kernel
theorem dX7_probe_14 : decode cX7_probe 14 = .ok (.getfield 59, 3) := by decide +kernel
theorem dX7_probe_17 : decode cX7_probe 17 = .ok (.iconst 1, 1) := by decide +kernel
theorem dX7_probe_18 : decode cX7_probe 18 = .ok (.iadd, 1) := by decide +kernel
theorem dX7_probe_19 : decode cX7_probe 19 = .ok (.putfield 59, 3) := by decide +kernel
theorem dX7_probe_22 : decode cX7_probe 22 = .ok (.aload_n 0, 1) := by decide +kernel
theorem dX7_probe_23 : decode cX7_probe 23 = .ok (.getfield 18, 3) := by decide +kernel
theorem dX7_probe_26 : decode cX7_probe 26 = .ok (.new 63, 3) := by decide +kernel
theorem dX7_probe_29 : decode cX7_probe 29 = .ok (.dup, 1) := by decide +kernel
theorem dX7_probe_30 : decode cX7_probe 30 = .ok (.aload_n 0, 1) := by decide +kernel
theorem dX7_probe_31 : decode cX7_probe 31 = .ok (.getfield 59, 3) := by decide +kernel
theorem dX7_probe_34 : decode cX7_probe 34 = .ok (.iload_n 1, 1) := by decide +kernel
theorem dX7_probe_35 : decode cX7_probe 35 = .ok (.invokespecial 65, 3) := by decide +kernel
theorem dX7_probe_38 : decode cX7_probe 38 = .ok (.invokevirtual 68, 3) := by decide +kernel
theorem dX7_probe_41 : decode cX7_probe 41 = .ok (.aload_n 0, 1) := by decide +kernel
theorem dX7_probe_42 : decode cX7_probe 42 = .ok (.getfield 59, 3) := by decide +kernel
theorem dX7_probe_45 : decode cX7_probe 45 = .ok (.ireturn, 1) := by decide +kernel
theorem dX7_line_0 : decode cX7_line 0 = .ok (.iload_n 1, 1) := by decide +kernel
theorem dX7_line_1 : decode cX7_line 1 = .ok (.ifCond .lt 8, 3) := by decide +kernel
theorem dX7_line_4 : decode cX7_line 4 = .ok (.iload_n 1, 1) := by decide +kernel
theorem dX7_line_5 : decode cX7_line 5 = .ok (.iconst 4, 1) := by decide +kernel
theorem dX7_line_6 : decode cX7_line 6 = .ok (.if_icmp .le 6, 3) := by decide +kernel
theorem dX7_line_9 : decode cX7_line 9 = .ok (.bipush (-2), 2) := by decide +kernel
theorem dX7_line_11 : decode cX7_line 11 = .ok (.ireturn, 1) := by decide +kernel
theorem dX7_line_12 : decode cX7_line 12 = .ok (.aload_n 0, 1) := by decide +kernel
theorem dX7_line_13 : decode cX7_line 13 = .ok (.getfield 18, 3) := by decide +kernel
theorem dX7_line_16 : decode cX7_line 16 = .ok (.new 43, 3) := by decide +kernel
theorem dX7_line_19 : decode cX7_line 19 = .ok (.dup, 1) := by decide +kernel
theorem dX7_line_20 : decode cX7_line 20 = .ok (.iconst 4, 1) := by decide +kernel
theorem dX7_line_21 : decode cX7_line 21 = .ok (.iload_n 1, 1) := by decide +kernel
theorem dX7_line_22 : decode cX7_line 22 = .ok (.invokespecial 45, 3) := by decide +kernel
theorem dX7_line_25 : decode cX7_line 25 = .ok (.invokevirtual 68, 3) := by decide +kernel
theorem dX7_line_28 : decode cX7_line 28 = .ok (.iconst 1, 1) := by decide +kernel
theorem dX7_line_29 : decode cX7_line 29 = .ok (.ireturn, 1) := by decide +kernel
theorem dX7_none_0 : decode cX7_none 0 = .ok (.aload_n 0, 1) := by decide +kernel
theorem dX7_none_1 : decode cX7_none 1 = .ok (.getfield 18, 3) := by decide +kernel
theorem dX7_none_4 : decode cX7_none 4 = .ok (.aconst_null, 1) := by decide +kernel
theorem dX7_none_5 : decode cX7_none 5 = .ok (.invokevirtual 68, 3) := by decide +kernel
theorem dX7_none_8 : decode cX7_none 8 = .ok (.iconst 1, 1) := by decide +kernel
theorem dX7_none_9 : decode cX7_none 9 = .ok (.ireturn, 1) := by decide +kernel
theorem dX7_get_0 : decode cX7_get 0 = .ok (.iload_n 1, 1) := by decide +kernel
theorem dX7_get_1 : decode cX7_get 1 = .ok (.invokestatic 36, 3) := by decide +kernel
theorem dX7_get_4 : decode cX7_get 4 = .ok (.ifCond .ne 5, 3) := by decide +kernel
theorem dX7_get_7 : decode cX7_get 7 = .ok (.iconst (-1), 1) := by decide +kernel
theorem dX7_get_8 : decode cX7_get 8 = .ok (.ireturn, 1) := by decide +kernel
theorem dX7_get_9 : decode cX7_get 9 = .ok (.aload_n 0, 1) := by decide +kernel
theorem dX7_get_10 : decode cX7_get 10 = .ok (.getfield 11, 3) := by decide +kernel
theorem dX7_get_13 : decode cX7_get 13 = .ok (.iload_n 1, 1) := by decide +kernel
theorem dX7_get_14 : decode cX7_get 14 = .ok (.aaload, 1) := by decide +kernel
theorem dX7_get_15 : decode cX7_get 15 = .ok (.iload_n 2, 1) := by decide +kernel
theorem dX7_get_16 : decode cX7_get 16 = .ok (.aload_n 0, 1) := by decide +kernel
theorem dX7_get_17 : decode cX7_get 17 = .ok (.getfield 18, 3) := by decide +kernel
theorem dX7_get_20 : decode cX7_get 20 = .ok (.invokestatic 72, 3) := by decide +kernel
theorem dX7_get_23 : decode cX7_get 23 = .ok (.istore_n 3, 1) := by decide +kernel
theorem dX7_get_24 : decode cX7_get 24 = .ok (.aload_n 0, 1) := by decide +kernel
theorem dX7_get_25 : decode cX7_get 25 = .ok (.iload_n 3, 1) := by decide +kernel
theorem dX7_get_26 : decode cX7_get 26 = .ok (.aload_n 0, 1) := by decide +kernel
theorem dX7_get_27 : decode cX7_get 27 = .ok (.getfield 18, 3) := by decide +kernel
theorem dX7_get_30 : decode cX7_get 30 = .ok (.getfield 76, 3) := by decide +kernel
theorem dX7_get_33 : decode cX7_get 33 = .ok (.invokevirtual 79, 3) := by decide +kernel
theorem dX7_get_36 : decode cX7_get 36 = .ok (.ireturn, 1) := by decide +kernel
theorem dX7_set_0 : decode cX7_set 0 = .ok (.iload_n 1, 1) := by decide +kernel
theorem dX7_set_1 : decode cX7_set 1 = .ok (.invokestatic 36, 3) := by decide +kernel
theorem dX7_set_4 : decode cX7_set 4 = .ok (.ifCond .ne 5, 3) := by decide +kernel
theorem dX7_set_7 : decode cX7_set 7 = .ok (.iconst (-1), 1) := by decide +kernel
theorem dX7_set_8 : decode cX7_set 8 = .ok (.ireturn, 1) := by decide +kernel
theorem dX7_set_9 : decode cX7_set 9 = .ok (.aload_n 0, 1) := by decide +kernel
theorem dX7_set_10 : decode cX7_set 10 = .ok (.aload_n 0, 1) := by decide +kernel
theorem dX7_set_11 : decode cX7_set 11 = .ok (.getfield 11, 3) := by decide +kernel
theorem dX7_set_14 : decode cX7_set 14 = .ok (.iload_n 1, 1) := by decide +kernel
theorem dX7_set_15 : decode cX7_set 15 = .ok (.aaload, 1) := by decide +kernel
theorem dX7_set_16 : decode cX7_set 16 = .ok (.iload_n 2, 1) := by decide +kernel
theorem dX7_set_17 : decode cX7_set 17 = .ok (.aload_n 0, 1) := by decide +kernel
theorem dX7_set_18 : decode cX7_set 18 = .ok (.getfield 18, 3) := by decide +kernel
theorem dX7_set_21 : decode cX7_set 21 = .ok (.invokestatic 83, 3) := by decide +kernel
theorem dX7_set_24 : decode cX7_set 24 = .ok (.iconst 1, 1) := by decide +kernel
theorem dX7_set_25 : decode cX7_set 25 = .ok (.invokevirtual 79, 3) := by decide +kernel
theorem dX7_set_28 : decode cX7_set 28 = .ok (.ireturn, 1) := by decide +kernel
theorem dX7_read_0 : decode cX7_read 0 = .ok (.iload_n 1, 1) := by decide +kernel
theorem dX7_read_1 : decode cX7_read 1 = .ok (.invokestatic 36, 3) := by decide +kernel
theorem dX7_read_4 : decode cX7_read 4 = .ok (.ifCond .ne 5, 3) := by decide +kernel
theorem dX7_read_7 : decode cX7_read 7 = .ok (.iconst (-1), 1) := by decide +kernel
theorem dX7_read_8 : decode cX7_read 8 = .ok (.ireturn, 1) := by decide +kernel
theorem dX7_read_9 : decode cX7_read 9 = .ok (.iload_n 3, 1) := by decide +kernel
theorem dX7_read_10 : decode cX7_read 10 = .ok (.invokestatic 40, 3) := by decide +kernel
theorem dX7_read_13 : decode cX7_read 13 = .ok (.ifCond .ne 6, 3) := by decide +kernel
theorem dX7_read_16 : decode cX7_read 16 = .ok (.bipush (-2), 2) := by decide +kernel
theorem dX7_read_18 : decode cX7_read 18 = .ok (.ireturn, 1) := by decide +kernel
theorem dX7_read_19 : decode cX7_read 19 = .ok (.aload_n 0, 1) := by decide +kernel
theorem dX7_read_20 : decode cX7_read 20 = .ok (.aload_n 0, 1) := by decide +kernel
theorem dX7_read_21 : decode cX7_read 21 = .ok (.getfield 11, 3) := by decide +kernel
theorem dX7_read_24 : decode cX7_read 24 = .ok (.iload_n 1, 1) := by decide +kernel
theorem dX7_read_25 : decode cX7_read 25 = .ok (.aaload, 1) := by decide +kernel
theorem dX7_read_26 : decode cX7_read 26 = .ok (.iload_n 2, 1) := by decide +kernel
theorem dX7_read_27 : decode cX7_read 27 = .ok (.iload_n 3, 1) := by decide +kernel
theorem dX7_read_28 : decode cX7_read 28 = .ok (.aload_n 0, 1) := by decide +kernel
theorem dX7_read_29 : decode cX7_read 29 = .ok (.getfield 18, 3) := by decide +kernel
theorem dX7_read_32 : decode cX7_read 32 = .ok (.invokestatic 86, 3) := by decide +kernel
theorem dX7_read_35 : decode cX7_read 35 = .ok (.iconst 1, 1) := by decide +kernel
theorem dX7_read_36 : decode cX7_read 36 = .ok (.invokevirtual 79, 3) := by decide +kernel
theorem dX7_read_39 : decode cX7_read 39 = .ok (.ireturn, 1) := by decide +kernel
theorem dX7_write_0 : decode cX7_write 0 = .ok (.iload_n 1, 1) := by decide +kernel
theorem dX7_write_1 : decode cX7_write 1 = .ok (.invokestatic 36, 3) := by decide +kernel
theorem dX7_write_4 : decode cX7_write 4 = .ok (.ifCond .ne 5, 3) := by decide +kernel
theorem dX7_write_7 : decode cX7_write 7 = .ok (.iconst (-1), 1) := by decide +kernel
theorem dX7_write_8 : decode cX7_write 8 = .ok (.ireturn, 1) := by decide +kernel
theorem dX7_write_9 : decode cX7_write 9 = .ok (.iload_n 3, 1) := by decide +kernel
theorem dX7_write_10 : decode cX7_write 10 = .ok (.invokestatic 40, 3) := by decide +kernel
theorem dX7_write_13 : decode cX7_write 13 = .ok (.ifCond .ne 6, 3) := by decide +kernel
theorem dX7_write_16 : decode cX7_write 16 = .ok (.bipush (-2), 2) := by decide +kernel
theorem dX7_write_18 : decode cX7_write 18 = .ok (.ireturn, 1) := by decide +kernel
theorem dX7_write_19 : decode cX7_write 19 = .ok (.aload_n 0, 1) := by decide +kernel
theorem dX7_write_20 : decode cX7_write 20 = .ok (.getfield 18, 3) := by decide +kernel
theorem dX7_write_23 : decode cX7_write 23 = .ok (.getfield 76, 3) := by decide +kernel
theorem dX7_write_26 : decode cX7_write 26 = .ok (.invokestatic 40, 3) := by decide +kernel
theorem dX7_write_29 : decode cX7_write 29 = .ok (.ifCond .ne 6, 3) := by decide +kernel
theorem dX7_write_32 : decode cX7_write 32 = .ok (.bipush (-3), 2) := by decide +kernel
theorem dX7_write_34 : decode cX7_write 34 = .ok (.ireturn, 1) := by decide +kernel
theorem dX7_write_35 : decode cX7_write 35 = .ok (.aload_n 0, 1) := by decide +kernel
theorem dX7_write_36 : decode cX7_write 36 = .ok (.aload_n 0, 1) := by decide +kernel
theorem dX7_write_37 : decode cX7_write 37 = .ok (.getfield 11, 3) := by decide +kernel
theorem dX7_write_40 : decode cX7_write 40 = .ok (.iload_n 1, 1) := by decide +kernel
theorem dX7_write_41 : decode cX7_write 41 = .ok (.aaload, 1) := by decide +kernel
theorem dX7_write_42 : decode cX7_write 42 = .ok (.iload_n 2, 1) := by decide +kernel
theorem dX7_write_43 : decode cX7_write 43 = .ok (.iload_n 3, 1) := by decide +kernel
theorem dX7_write_44 : decode cX7_write 44 = .ok (.aload_n 0, 1) := by decide +kernel
theorem dX7_write_45 : decode cX7_write 45 = .ok (.getfield 18, 3) := by decide +kernel
theorem dX7_write_48 : decode cX7_write 48 = .ok (.getfield 90, 3) := by decide +kernel
theorem dX7_write_51 : decode cX7_write 51 = .ok (.invokestatic 94, 3) := by decide +kernel
theorem dX7_write_54 : decode cX7_write 54 = .ok (.iconst 1, 1) := by decide +kernel
theorem dX7_write_55 : decode cX7_write 55 = .ok (.invokevirtual 79, 3) := by decide +kernel
theorem dX7_write_58 : decode cX7_write 58 = .ok (.ireturn, 1) := by decide +kernel
theorem dX7_size_0 : decode cX7_size 0 = .ok (.iload_n 1, 1) := by decide +kernel
theorem dX7_size_1 : decode cX7_size 1 = .ok (.invokestatic 36, 3) := by decide +kernel
theorem dX7_size_4 : decode cX7_size 4 = .ok (.ifCond .ne 5, 3) := by decide +kernel
theorem dX7_size_7 : decode cX7_size 7 = .ok (.iconst (-1), 1) := by decide +kernel
theorem dX7_size_8 : decode cX7_size 8 = .ok (.ireturn, 1) := by decide +kernel
theorem dX7_size_9 : decode cX7_size 9 = .ok (.aload_n 0, 1) := by decide +kernel
theorem dX7_size_10 : decode cX7_size 10 = .ok (.aload_n 0, 1) := by decide +kernel
theorem dX7_size_11 : decode cX7_size 11 = .ok (.getfield 11, 3) := by decide +kernel
theorem dX7_size_14 : decode cX7_size 14 = .ok (.iload_n 1, 1) := by decide +kernel
theorem dX7_size_15 : decode cX7_size 15 = .ok (.aaload, 1) := by decide +kernel
theorem dX7_size_16 : decode cX7_size 16 = .ok (.invokestatic 98, 3) := by decide +kernel
theorem dX7_size_19 : decode cX7_size 19 = .ok (.aload_n 0, 1) := by decide +kernel
theorem dX7_size_20 : decode cX7_size 20 = .ok (.getfield 11, 3) := by decide +kernel
theorem dX7_size_23 : decode cX7_size 23 = .ok (.iload_n 1, 1) := by decide +kernel
theorem dX7_size_24 : decode cX7_size 24 = .ok (.aaload, 1) := by decide +kernel
theorem dX7_size_25 : decode cX7_size 25 = .ok (.invokestatic 102, 3) := by decide +kernel
theorem dX7_size_28 : decode cX7_size 28 = .ok (.invokevirtual 79, 3) := by decide +kernel
theorem dX7_size_31 : decode cX7_size 31 = .ok (.ireturn, 1) := by decide +kernel
theorem dX7_within_0 : decode cX7_within 0 = .ok (.iload_n 1, 1) := by decide +kernel
theorem dX7_within_1 : decode cX7_within 1 = .ok (.invokestatic 36, 3) := by decide +kernel
theorem dX7_within_4 : decode cX7_within 4 = .ok (.ifCond .ne 5, 3) := by decide +kernel
theorem dX7_within_7 : decode cX7_within 7 = .ok (.iconst (-1), 1) := by decide +kernel
theorem dX7_within_8 : decode cX7_within 8 = .ok (.ireturn, 1) := by decide +kernel
theorem dX7_within_9 : decode cX7_within 9 = .ok (.aload_n 0, 1) := by decide +kernel
theorem dX7_within_10 : decode cX7_within 10 = .ok (.aload_n 0, 1) := by decide +kernel
theorem dX7_within_11 : decode cX7_within 11 = .ok (.aload_n 0, 1) := by decide +kernel
theorem dX7_within_12 : decode cX7_within 12 = .ok (.getfield 11, 3) := by decide +kernel
theorem dX7_within_15 : decode cX7_within 15 = .ok (.iload_n 1, 1) := by decide +kernel
theorem dX7_within_16 : decode cX7_within 16 = .ok (.aaload, 1) := by decide +kernel
theorem dX7_within_17 : decode cX7_within 17 = .ok (.iload_n 2, 1) := by decide +kernel
theorem dX7_within_18 : decode cX7_within 18 = .ok (.iload_n 3, 1) := by decide +kernel
theorem dX7_within_19 : decode cX7_within 19 = .ok (.invokevirtual 105, 3) := by decide +kernel
theorem dX7_within_22 : decode cX7_within 22 = .ok (.iconst 1, 1) := by decide +kernel
theorem dX7_within_23 : decode cX7_within 23 = .ok (.invokevirtual 79, 3) := by decide +kernel
theorem dX7_within_26 : decode cX7_within 26 = .ok (.ireturn, 1) := by decide +kernel
theorem dX7_into_0 : decode cX7_into 0 = .ok (.iload_n 1, 1) := by decide +kernel
theorem dX7_into_1 : decode cX7_into 1 = .ok (.invokestatic 36, 3) := by decide +kernel
theorem dX7_into_4 : decode cX7_into 4 = .ok (.ifCond .ne 5, 3) := by decide +kernel
theorem dX7_into_7 : decode cX7_into 7 = .ok (.iconst (-1), 1) := by decide +kernel
theorem dX7_into_8 : decode cX7_into 8 = .ok (.ireturn, 1) := by decide +kernel
theorem dX7_into_9 : decode cX7_into 9 = .ok (.aload_n 0, 1) := by decide +kernel
theorem dX7_into_10 : decode cX7_into 10 = .ok (.aload_n 0, 1) := by decide +kernel
theorem dX7_into_11 : decode cX7_into 11 = .ok (.aload_n 0, 1) := by decide +kernel
theorem dX7_into_12 : decode cX7_into 12 = .ok (.getfield 11, 3) := by decide +kernel
theorem dX7_into_15 : decode cX7_into 15 = .ok (.iload_n 1, 1) := by decide +kernel
theorem dX7_into_16 : decode cX7_into 16 = .ok (.aaload, 1) := by decide +kernel
theorem dX7_into_17 : decode cX7_into 17 = .ok (.iload_n 2, 1) := by decide +kernel
theorem dX7_into_18 : decode cX7_into 18 = .ok (.iload_n 3, 1) := by decide +kernel
theorem dX7_into_19 : decode cX7_into 19 = .ok (.iload 4, 2) := by decide +kernel
theorem dX7_into_21 : decode cX7_into 21 = .ok (.invokevirtual 109, 3) := by decide +kernel
theorem dX7_into_24 : decode cX7_into 24 = .ok (.iconst 1, 1) := by decide +kernel
theorem dX7_into_25 : decode cX7_into 25 = .ok (.invokevirtual 79, 3) := by decide +kernel
theorem dX7_into_28 : decode cX7_into 28 = .ok (.ireturn, 1) := by decide +kernel
theorem dX7_pass_0 : decode cX7_pass 0 = .ok (.iload_n 1, 1) := by decide +kernel
theorem dX7_pass_1 : decode cX7_pass 1 = .ok (.invokestatic 36, 3) := by decide +kernel
theorem dX7_pass_4 : decode cX7_pass 4 = .ok (.ifCond .eq 10, 3) := by decide +kernel
theorem dX7_pass_7 : decode cX7_pass 7 = .ok (.iload_n 2, 1) := by decide +kernel
theorem dX7_pass_8 : decode cX7_pass 8 = .ok (.invokestatic 36, 3) := by decide +kernel
theorem dX7_pass_11 : decode cX7_pass 11 = .ok (.ifCond .ne 5, 3) := by decide +kernel
theorem dX7_pass_14 : decode cX7_pass 14 = .ok (.iconst (-1), 1) := by decide +kernel
theorem dX7_pass_15 : decode cX7_pass 15 = .ok (.ireturn, 1) := by decide +kernel
theorem dX7_pass_16 : decode cX7_pass 16 = .ok (.iload_n 3, 1) := by decide +kernel
theorem dX7_pass_17 : decode cX7_pass 17 = .ok (.invokestatic 40, 3) := by decide +kernel
theorem dX7_pass_20 : decode cX7_pass 20 = .ok (.ifCond .ne 6, 3) := by decide +kernel
theorem dX7_pass_23 : decode cX7_pass 23 = .ok (.bipush (-2), 2) := by decide +kernel
theorem dX7_pass_25 : decode cX7_pass 25 = .ok (.ireturn, 1) := by decide +kernel
theorem dX7_pass_26 : decode cX7_pass 26 = .ok (.aload_n 0, 1) := by decide +kernel
theorem dX7_pass_27 : decode cX7_pass 27 = .ok (.getfield 11, 3) := by decide +kernel
theorem dX7_pass_30 : decode cX7_pass 30 = .ok (.iload_n 1, 1) := by decide +kernel
theorem dX7_pass_31 : decode cX7_pass 31 = .ok (.aaload, 1) := by decide +kernel
theorem dX7_pass_32 : decode cX7_pass 32 = .ok (.invokestatic 98, 3) := by decide +kernel
theorem dX7_pass_35 : decode cX7_pass 35 = .ok (.istore 4, 2) := by decide +kernel
theorem dX7_pass_37 : decode cX7_pass 37 = .ok (.iload 4, 2) := by decide +kernel
theorem dX7_pass_39 : decode cX7_pass 39 = .ok (.ifCond .eq 11, 3) := by decide +kernel
theorem dX7_pass_42 : decode cX7_pass 42 = .ok (.aload_n 0, 1) := by decide +kernel
theorem dX7_pass_43 : decode cX7_pass 43 = .ok (.iload 4, 2) := by decide +kernel
theorem dX7_pass_45 : decode cX7_pass 45 = .ok (.iconst 0, 1) := by decide +kernel
theorem dX7_pass_46 : decode cX7_pass 46 = .ok (.invokevirtual 79, 3) := by decide +kernel
theorem dX7_pass_49 : decode cX7_pass 49 = .ok (.ireturn, 1) := by decide +kernel
theorem dX7_pass_50 : decode cX7_pass 50 = .ok (.aload_n 0, 1) := by decide +kernel
theorem dX7_pass_51 : decode cX7_pass 51 = .ok (.getfield 11, 3) := by decide +kernel
theorem dX7_pass_54 : decode cX7_pass 54 = .ok (.iload_n 1, 1) := by decide +kernel
theorem dX7_pass_55 : decode cX7_pass 55 = .ok (.aaload, 1) := by decide +kernel
theorem dX7_pass_56 : decode cX7_pass 56 = .ok (.invokestatic 102, 3) := by decide +kernel
theorem dX7_pass_59 : decode cX7_pass 59 = .ok (.istore 5, 2) := by decide +kernel
theorem dX7_pass_61 : decode cX7_pass 61 = .ok (.iconst 0, 1) := by decide +kernel
theorem dX7_pass_62 : decode cX7_pass 62 = .ok (.istore 6, 2) := by decide +kernel
theorem dX7_pass_64 : decode cX7_pass 64 = .ok (.iload 6, 2) := by decide +kernel
theorem dX7_pass_66 : decode cX7_pass 66 = .ok (.iload 5, 2) := by decide +kernel
theorem dX7_pass_68 : decode cX7_pass 68 = .ok (.if_icmp .ge 44, 3) := by decide +kernel
theorem dX7_pass_71 : decode cX7_pass 71 = .ok (.aload_n 0, 1) := by decide +kernel
theorem dX7_pass_72 : decode cX7_pass 72 = .ok (.aload_n 0, 1) := by decide +kernel
theorem dX7_pass_73 : decode cX7_pass 73 = .ok (.getfield 11, 3) := by decide +kernel
theorem dX7_pass_76 : decode cX7_pass 76 = .ok (.iload_n 1, 1) := by decide +kernel
theorem dX7_pass_77 : decode cX7_pass 77 = .ok (.aaload, 1) := by decide +kernel
theorem dX7_pass_78 : decode cX7_pass 78 = .ok (.aload_n 0, 1) := by decide +kernel
theorem dX7_pass_79 : decode cX7_pass 79 = .ok (.getfield 11, 3) := by decide +kernel
theorem dX7_pass_82 : decode cX7_pass 82 = .ok (.iload_n 2, 1) := by decide +kernel
theorem dX7_pass_83 : decode cX7_pass 83 = .ok (.aaload, 1) := by decide +kernel
theorem dX7_pass_84 : decode cX7_pass 84 = .ok (.iload 6, 2) := by decide +kernel
theorem dX7_pass_86 : decode cX7_pass 86 = .ok (.iload_n 3, 1) := by decide +kernel
theorem dX7_pass_87 : decode cX7_pass 87 = .ok (.invokevirtual 113, 3) := by decide +kernel
theorem dX7_pass_90 : decode cX7_pass 90 = .ok (.istore 4, 2) := by decide +kernel
theorem dX7_pass_92 : decode cX7_pass 92 = .ok (.iload 4, 2) := by decide +kernel
theorem dX7_pass_94 : decode cX7_pass 94 = .ok (.ifCond .eq 12, 3) := by decide +kernel
theorem dX7_pass_97 : decode cX7_pass 97 = .ok (.aload_n 0, 1) := by decide +kernel
theorem dX7_pass_98 : decode cX7_pass 98 = .ok (.iload 4, 2) := by decide +kernel
theorem dX7_pass_100 : decode cX7_pass 100 = .ok (.invokevirtual 117, 3) := by decide +kernel
theorem dX7_pass_103 : decode cX7_pass 103 = .ok (.iload 6, 2) := by decide +kernel
theorem dX7_pass_105 : decode cX7_pass 105 = .ok (.ireturn, 1) := by decide +kernel
theorem dX7_pass_106 : decode cX7_pass 106 = .ok (.iinc 6 1, 3) := by decide +kernel
theorem dX7_pass_109 : decode cX7_pass 109 = .ok (.goto (-45), 3) := by decide +kernel
theorem dX7_pass_112 : decode cX7_pass 112 = .ok (.iload 5, 2) := by decide +kernel
theorem dX7_pass_114 : decode cX7_pass 114 = .ok (.ireturn, 1) := by decide +kernel
theorem dX7_takes_0 : decode cX7_takes 0 = .ok (.iload_n 1, 1) := by decide +kernel
theorem dX7_takes_1 : decode cX7_takes 1 = .ok (.invokestatic 36, 3) := by decide +kernel
theorem dX7_takes_4 : decode cX7_takes 4 = .ok (.ifCond .ne 5, 3) := by decide +kernel
theorem dX7_takes_7 : decode cX7_takes 7 = .ok (.iconst (-1), 1) := by decide +kernel
theorem dX7_takes_8 : decode cX7_takes 8 = .ok (.ireturn, 1) := by decide +kernel
theorem dX7_takes_9 : decode cX7_takes 9 = .ok (.aload_n 0, 1) := by decide +kernel
theorem dX7_takes_10 : decode cX7_takes 10 = .ok (.aload_n 0, 1) := by decide +kernel
theorem dX7_takes_11 : decode cX7_takes 11 = .ok (.getfield 11, 3) := by decide +kernel
theorem dX7_takes_14 : decode cX7_takes 14 = .ok (.iload_n 1, 1) := by decide +kernel
theorem dX7_takes_15 : decode cX7_takes 15 = .ok (.aaload, 1) := by decide +kernel
theorem dX7_takes_16 : decode cX7_takes 16 = .ok (.iconst 0, 1) := by decide +kernel
theorem dX7_takes_17 : decode cX7_takes 17 = .ok (.invokestatic 121, 3) := by decide +kernel
theorem dX7_takes_20 : decode cX7_takes 20 = .ok (.aload_n 0, 1) := by decide +kernel
theorem dX7_takes_21 : decode cX7_takes 21 = .ok (.getfield 11, 3) := by decide +kernel
theorem dX7_takes_24 : decode cX7_takes 24 = .ok (.iload_n 1, 1) := by decide +kernel
theorem dX7_takes_25 : decode cX7_takes 25 = .ok (.aaload, 1) := by decide +kernel
theorem dX7_takes_26 : decode cX7_takes 26 = .ok (.invokestatic 125, 3) := by decide +kernel
theorem dX7_takes_29 : decode cX7_takes 29 = .ok (.invokevirtual 79, 3) := by decide +kernel
theorem dX7_takes_32 : decode cX7_takes 32 = .ok (.ireturn, 1) := by decide +kernel
theorem dX7_gives_0 : decode cX7_gives 0 = .ok (.iload_n 1, 1) := by decide +kernel
theorem dX7_gives_1 : decode cX7_gives 1 = .ok (.invokestatic 36, 3) := by decide +kernel
theorem dX7_gives_4 : decode cX7_gives 4 = .ok (.ifCond .ne 5, 3) := by decide +kernel
theorem dX7_gives_7 : decode cX7_gives 7 = .ok (.iconst (-1), 1) := by decide +kernel
theorem dX7_gives_8 : decode cX7_gives 8 = .ok (.ireturn, 1) := by decide +kernel
theorem dX7_gives_9 : decode cX7_gives 9 = .ok (.aload_n 0, 1) := by decide +kernel
theorem dX7_gives_10 : decode cX7_gives 10 = .ok (.aload_n 0, 1) := by decide +kernel
theorem dX7_gives_11 : decode cX7_gives 11 = .ok (.getfield 11, 3) := by decide +kernel
theorem dX7_gives_14 : decode cX7_gives 14 = .ok (.iload_n 1, 1) := by decide +kernel
theorem dX7_gives_15 : decode cX7_gives 15 = .ok (.aaload, 1) := by decide +kernel
theorem dX7_gives_16 : decode cX7_gives 16 = .ok (.iconst 0, 1) := by decide +kernel
theorem dX7_gives_17 : decode cX7_gives 17 = .ok (.invokestatic 121, 3) := by decide +kernel
theorem dX7_gives_20 : decode cX7_gives 20 = .ok (.aload_n 0, 1) := by decide +kernel
theorem dX7_gives_21 : decode cX7_gives 21 = .ok (.getfield 11, 3) := by decide +kernel
theorem dX7_gives_24 : decode cX7_gives 24 = .ok (.iload_n 1, 1) := by decide +kernel
theorem dX7_gives_25 : decode cX7_gives 25 = .ok (.aaload, 1) := by decide +kernel
theorem dX7_gives_26 : decode cX7_gives 26 = .ok (.invokestatic 128, 3) := by decide +kernel
theorem dX7_gives_29 : decode cX7_gives 29 = .ok (.invokevirtual 79, 3) := by decide +kernel
theorem dX7_gives_32 : decode cX7_gives 32 = .ok (.ireturn, 1) := by decide +kernel
theorem dX7_step_0 : decode cX7_step 0 = .ok (.iload_n 2, 1) := by decide +kernel
theorem dX7_step_1 : decode cX7_step 1 = .ok (.invokestatic 36, 3) := by decide +kernel
theorem dX7_step_4 : decode cX7_step 4 = .ok (.ifCond .eq 11, 3) := by decide +kernel
theorem dX7_step_7 : decode cX7_step 7 = .ok (.iload 4, 2) := by decide +kernel
theorem dX7_step_9 : decode cX7_step 9 = .ok (.invokestatic 36, 3) := by decide +kernel
theorem dX7_step_12 : decode cX7_step 12 = .ok (.ifCond .ne 5, 3) := by decide +kernel
theorem dX7_step_15 : decode cX7_step 15 = .ok (.iconst (-1), 1) := by decide +kernel
theorem dX7_step_16 : decode cX7_step 16 = .ok (.ireturn, 1) := by decide +kernel
theorem dX7_step_17 : decode cX7_step 17 = .ok (.iload_n 1, 1) := by decide +kernel
theorem dX7_step_18 : decode cX7_step 18 = .ok (.ifCond .lt 27, 3) := by decide +kernel
theorem dX7_step_21 : decode cX7_step 21 = .ok (.iload_n 1, 1) := by decide +kernel
theorem dX7_step_22 : decode cX7_step 22 = .ok (.iconst 5, 1) := by decide +kernel
theorem dX7_step_23 : decode cX7_step 23 = .ok (.if_icmp .gt 22, 3) := by decide +kernel
theorem dX7_step_26 : decode cX7_step 26 = .ok (.iload_n 3, 1) := by decide +kernel
theorem dX7_step_27 : decode cX7_step 27 = .ok (.iconst (-1), 1) := by decide +kernel
theorem dX7_step_28 : decode cX7_step 28 = .ok (.if_icmp .lt 17, 3) := by decide +kernel
theorem dX7_step_31 : decode cX7_step 31 = .ok (.iload_n 3, 1) := by decide +kernel
theorem dX7_step_32 : decode cX7_step 32 = .ok (.bipush 16, 2) := by decide +kernel
theorem dX7_step_34 : decode cX7_step 34 = .ok (.if_icmp .gt 11, 3) := by decide +kernel
theorem dX7_step_37 : decode cX7_step 37 = .ok (.iload 5, 2) := by decide +kernel
theorem dX7_step_39 : decode cX7_step 39 = .ok (.invokestatic 40, 3) := by decide +kernel
theorem dX7_step_42 : decode cX7_step 42 = .ok (.ifCond .ne 6, 3) := by decide +kernel
theorem dX7_step_45 : decode cX7_step 45 = .ok (.bipush (-2), 2) := by decide +kernel
theorem dX7_step_47 : decode cX7_step 47 = .ok (.ireturn, 1) := by decide +kernel
theorem dX7_step_48 : decode cX7_step 48 = .ok (.aload_n 0, 1) := by decide +kernel
theorem dX7_step_49 : decode cX7_step 49 = .ok (.getfield 131, 3) := by decide +kernel
theorem dX7_step_52 : decode cX7_step 52 = .ok (.bipush 12, 2) := by decide +kernel
theorem dX7_step_54 : decode cX7_step 54 = .ok (.if_icmp .lt 6, 3) := by decide +kernel
theorem dX7_step_57 : decode cX7_step 57 = .ok (.bipush (-4), 2) := by decide +kernel
theorem dX7_step_59 : decode cX7_step 59 = .ok (.ireturn, 1) := by decide +kernel
theorem dX7_step_60 : decode cX7_step 60 = .ok (.aload_n 0, 1) := by decide +kernel
theorem dX7_step_61 : decode cX7_step 61 = .ok (.getfield 27, 3) := by decide +kernel
theorem dX7_step_64 : decode cX7_step 64 = .ok (.aload_n 0, 1) := by decide +kernel
theorem dX7_step_65 : decode cX7_step 65 = .ok (.getfield 131, 3) := by decide +kernel
theorem dX7_step_68 : decode cX7_step 68 = .ok (.aaload, 1) := by decide +kernel
theorem dX7_step_69 : decode cX7_step 69 = .ok (.iload_n 1, 1) := by decide +kernel
theorem dX7_step_70 : decode cX7_step 70 = .ok (.iload_n 2, 1) := by decide +kernel
theorem dX7_step_71 : decode cX7_step 71 = .ok (.iload_n 3, 1) := by decide +kernel
theorem dX7_step_72 : decode cX7_step 72 = .ok (.iload 4, 2) := by decide +kernel
theorem dX7_step_74 : decode cX7_step 74 = .ok (.iload 5, 2) := by decide +kernel
theorem dX7_step_76 : decode cX7_step 76 = .ok (.invokevirtual 134, 3) := by decide +kernel
theorem dX7_step_79 : decode cX7_step 79 = .ok (.aload_n 0, 1) := by decide +kernel
theorem dX7_step_80 : decode cX7_step 80 = .ok (.dup, 1) := by decide +kernel
theorem dX7_step_81 : decode cX7_step 81 = .ok (.getfield 131, 3) := by decide +kernel
theorem dX7_step_84 : decode cX7_step 84 = .ok (.iconst 1, 1) := by decide +kernel
theorem dX7_step_85 : decode cX7_step 85 = .ok (.iadd, 1) := by decide +kernel
theorem dX7_step_86 : decode cX7_step 86 = .ok (.putfield 131, 3) := by decide +kernel
theorem dX7_step_89 : decode cX7_step 89 = .ok (.aload_n 0, 1) := by decide +kernel
theorem dX7_step_90 : decode cX7_step 90 = .ok (.getfield 131, 3) := by decide +kernel
theorem dX7_step_93 : decode cX7_step 93 = .ok (.ireturn, 1) := by decide +kernel
theorem dX7_run_0 : decode cX7_run 0 = .ok (.aload_n 0, 1) := by decide +kernel
theorem dX7_run_1 : decode cX7_run 1 = .ok (.invokevirtual 138, 3) := by decide +kernel
theorem dX7_run_4 : decode cX7_run 4 = .ok (.iconst 0, 1) := by decide +kernel
theorem dX7_run_5 : decode cX7_run 5 = .ok (.istore_n 2, 1) := by decide +kernel
theorem dX7_run_6 : decode cX7_run 6 = .ok (.iconst 0, 1) := by decide +kernel
theorem dX7_run_7 : decode cX7_run 7 = .ok (.istore_n 3, 1) := by decide +kernel
theorem dX7_run_8 : decode cX7_run 8 = .ok (.iload_n 3, 1) := by decide +kernel
theorem dX7_run_9 : decode cX7_run 9 = .ok (.aload_n 0, 1) := by decide +kernel
theorem dX7_run_10 : decode cX7_run 10 = .ok (.getfield 131, 3) := by decide +kernel
theorem dX7_run_13 : decode cX7_run 13 = .ok (.if_icmp .ge 55, 3) := by decide +kernel
theorem dX7_run_16 : decode cX7_run 16 = .ok (.aload_n 0, 1) := by decide +kernel
theorem dX7_run_17 : decode cX7_run 17 = .ok (.aload_n 0, 1) := by decide +kernel
theorem dX7_run_18 : decode cX7_run 18 = .ok (.getfield 27, 3) := by decide +kernel
end
section
theorem dX7_run_21 : decode cX7_run 21 = .ok (.iload_n 3, 1) := by decide +kernel
theorem dX7_run_22 : decode cX7_run 22 = .ok (.aaload, 1) := by decide +kernel
theorem dX7_run_23 : decode cX7_run 23 = .ok (.invokevirtual 141, 3) := by decide +kernel
theorem dX7_run_26 : decode cX7_run 26 = .ok (.istore 4, 2) := by decide +kernel
theorem dX7_run_28 : decode cX7_run 28 = .ok (.aload_n 0, 1) := by decide +kernel
theorem dX7_run_29 : decode cX7_run 29 = .ok (.getfield 27, 3) := by decide +kernel
theorem dX7_run_32 : decode cX7_run 32 = .ok (.iload_n 3, 1) := by decide +kernel
theorem dX7_run_33 : decode cX7_run 33 = .ok (.aaload, 1) := by decide +kernel
theorem dX7_run_34 : decode cX7_run 34 = .ok (.iload 4, 2) := by decide +kernel
theorem dX7_run_36 : decode cX7_run 36 = .ok (.putfield 145, 3) := by decide +kernel
theorem dX7_run_39 : decode cX7_run 39 = .ok (.iload 4, 2) := by decide +kernel
theorem dX7_run_41 : decode cX7_run 41 = .ok (.ifCond .ne 9, 3) := by decide +kernel
theorem dX7_run_44 : decode cX7_run 44 = .ok (.iinc 2 1, 3) := by decide +kernel
theorem dX7_run_47 : decode cX7_run 47 = .ok (.goto 15, 3) := by decide +kernel
theorem dX7_run_50 : decode cX7_run 50 = .ok (.aload_n 0, 1) := by decide +kernel
theorem dX7_run_51 : decode cX7_run 51 = .ok (.iload 4, 2) := by decide +kernel
theorem dX7_run_53 : decode cX7_run 53 = .ok (.invokevirtual 117, 3) := by decide +kernel
theorem dX7_run_56 : decode cX7_run 56 = .ok (.iload_n 1, 1) := by decide +kernel
theorem dX7_run_57 : decode cX7_run 57 = .ok (.ifCond .eq 5, 3) := by decide +kernel
theorem dX7_run_60 : decode cX7_run 60 = .ok (.iload_n 2, 1) := by decide +kernel
theorem dX7_run_61 : decode cX7_run 61 = .ok (.ireturn, 1) := by decide +kernel
theorem dX7_run_62 : decode cX7_run 62 = .ok (.iinc 3 1, 3) := by decide +kernel
theorem dX7_run_65 : decode cX7_run 65 = .ok (.goto (-57), 3) := by decide +kernel
theorem dX7_run_68 : decode cX7_run 68 = .ok (.iload_n 2, 1) := by decide +kernel
theorem dX7_run_69 : decode cX7_run 69 = .ok (.ireturn, 1) := by decide +kernel
theorem dX7_met_0 : decode cX7_met 0 = .ok (.iload_n 1, 1) := by decide +kernel
theorem dX7_met_1 : decode cX7_met 1 = .ok (.ifCond .lt 11, 3) := by decide +kernel
theorem dX7_met_4 : decode cX7_met 4 = .ok (.iload_n 1, 1) := by decide +kernel
theorem dX7_met_5 : decode cX7_met 5 = .ok (.aload_n 0, 1) := by decide +kernel
theorem dX7_met_6 : decode cX7_met 6 = .ok (.getfield 131, 3) := by decide +kernel
theorem dX7_met_9 : decode cX7_met 9 = .ok (.if_icmp .lt 8, 3) := by decide +kernel
theorem dX7_met_12 : decode cX7_met 12 = .ok (.bipush (-9), 2) := by decide +kernel
theorem dX7_met_14 : decode cX7_met 14 = .ok (.goto 12, 3) := by decide +kernel
theorem dX7_met_17 : decode cX7_met 17 = .ok (.aload_n 0, 1) := by decide +kernel
theorem dX7_met_18 : decode cX7_met 18 = .ok (.getfield 27, 3) := by decide +kernel
theorem dX7_met_21 : decode cX7_met 21 = .ok (.iload_n 1, 1) := by decide +kernel
theorem dX7_met_22 : decode cX7_met 22 = .ok (.aaload, 1) := by decide +kernel
theorem dX7_met_23 : decode cX7_met 23 = .ok (.getfield 145, 3) := by decide +kernel
theorem dX7_met_26 : decode cX7_met 26 = .ok (.ireturn, 1) := by decide +kernel
theorem dX7_clear_0 : decode cX7_clear 0 = .ok (.aload_n 0, 1) := by decide +kernel
theorem dX7_clear_1 : decode cX7_clear 1 = .ok (.getfield 131, 3) := by decide +kernel
theorem dX7_clear_4 : decode cX7_clear 4 = .ok (.istore_n 1, 1) := by decide +kernel
theorem dX7_clear_5 : decode cX7_clear 5 = .ok (.aload_n 0, 1) := by decide +kernel
theorem dX7_clear_6 : decode cX7_clear 6 = .ok (.iconst 0, 1) := by decide +kernel
theorem dX7_clear_7 : decode cX7_clear 7 = .ok (.putfield 131, 3) := by decide +kernel
theorem dX7_clear_10 : decode cX7_clear 10 = .ok (.iload_n 1, 1) := by decide +kernel
theorem dX7_clear_11 : decode cX7_clear 11 = .ok (.ireturn, 1) := by decide +kernel
theorem dX7_fault_0 : decode cX7_fault 0 = .ok (.aload_n 0, 1) := by decide +kernel
theorem dX7_fault_1 : decode cX7_fault 1 = .ok (.getfield 148, 3) := by decide +kernel
theorem dX7_fault_4 : decode cX7_fault 4 = .ok (.ireturn, 1) := by decide +kernel
theorem dX7_faults_0 : decode cX7_faults 0 = .ok (.iload_n 1, 1) := by decide +kernel
theorem dX7_faults_1 : decode cX7_faults 1 = .ok (.ifCond .lt 8, 3) := by decide +kernel
theorem dX7_faults_4 : decode cX7_faults 4 = .ok (.iload_n 1, 1) := by decide +kernel
theorem dX7_faults_5 : decode cX7_faults 5 = .ok (.iconst 3, 1) := by decide +kernel
theorem dX7_faults_6 : decode cX7_faults 6 = .ok (.if_icmp .le 8, 3) := by decide +kernel
theorem dX7_faults_9 : decode cX7_faults 9 = .ok (.bipush (-9), 2) := by decide +kernel
theorem dX7_faults_11 : decode cX7_faults 11 = .ok (.goto 9, 3) := by decide +kernel
theorem dX7_faults_14 : decode cX7_faults 14 = .ok (.aload_n 0, 1) := by decide +kernel
theorem dX7_faults_15 : decode cX7_faults 15 = .ok (.getfield 32, 3) := by decide +kernel
theorem dX7_faults_18 : decode cX7_faults 18 = .ok (.iload_n 1, 1) := by decide +kernel
theorem dX7_faults_19 : decode cX7_faults 19 = .ok (.iaload, 1) := by decide +kernel
theorem dX7_faults_20 : decode cX7_faults 20 = .ok (.ireturn, 1) := by decide +kernel
theorem dX7_has_0 : decode cX7_has 0 = .ok (.aload_n 0, 1) := by decide +kernel
theorem dX7_has_1 : decode cX7_has 1 = .ok (.getfield 18, 3) := by decide +kernel
theorem dX7_has_4 : decode cX7_has 4 = .ok (.getfield 76, 3) := by decide +kernel
theorem dX7_has_7 : decode cX7_has 7 = .ok (.ireturn, 1) := by decide +kernel
theorem dX7_value_0 : decode cX7_value 0 = .ok (.aload_n 0, 1) := by decide +kernel
theorem dX7_value_1 : decode cX7_value 1 = .ok (.getfield 18, 3) := by decide +kernel
theorem dX7_value_4 : decode cX7_value 4 = .ok (.getfield 90, 3) := by decide +kernel
theorem dX7_value_7 : decode cX7_value 7 = .ok (.lreturn, 1) := by decide +kernel
theorem dX7_told_0 : decode cX7_told 0 = .ok (.iload_n 1, 1) := by decide +kernel
theorem dX7_told_1 : decode cX7_told 1 = .ok (.invokestatic 36, 3) := by decide +kernel
theorem dX7_told_4 : decode cX7_told 4 = .ok (.ifCond .ne 5, 3) := by decide +kernel
theorem dX7_told_7 : decode cX7_told 7 = .ok (.iconst (-1), 1) := by decide +kernel
theorem dX7_told_8 : decode cX7_told 8 = .ok (.ireturn, 1) := by decide +kernel
theorem dX7_told_9 : decode cX7_told 9 = .ok (.aload_n 0, 1) := by decide +kernel
theorem dX7_told_10 : decode cX7_told 10 = .ok (.getfield 11, 3) := by decide +kernel
theorem dX7_told_13 : decode cX7_told 13 = .ok (.iload_n 1, 1) := by decide +kernel
theorem dX7_told_14 : decode cX7_told 14 = .ok (.aaload, 1) := by decide +kernel
theorem dX7_told_15 : decode cX7_told 15 = .ok (.astore_n 3, 1) := by decide +kernel
theorem dX7_told_16 : decode cX7_told 16 = .ok (.aload_n 3, 1) := by decide +kernel
theorem dX7_told_17 : decode cX7_told 17 = .ok (.instanceof 151, 3) := by decide +kernel
theorem dX7_told_20 : decode cX7_told 20 = .ok (.ifCond .eq 13, 3) := by decide +kernel
theorem dX7_told_23 : decode cX7_told 23 = .ok (.aload_n 3, 1) := by decide +kernel
theorem dX7_told_24 : decode cX7_told 24 = .ok (.checkcast 151, 3) := by decide +kernel
theorem dX7_told_27 : decode cX7_told 27 = .ok (.astore_n 2, 1) := by decide +kernel
theorem dX7_told_28 : decode cX7_told 28 = .ok (.aload_n 2, 1) := by decide +kernel
theorem dX7_told_29 : decode cX7_told 29 = .ok (.getfield 153, 3) := by decide +kernel
theorem dX7_told_32 : decode cX7_told 32 = .ok (.ireturn, 1) := by decide +kernel
theorem dX7_told_33 : decode cX7_told 33 = .ok (.aload_n 0, 1) := by decide +kernel
theorem dX7_told_34 : decode cX7_told 34 = .ok (.getfield 11, 3) := by decide +kernel
theorem dX7_told_37 : decode cX7_told 37 = .ok (.iload_n 1, 1) := by decide +kernel
theorem dX7_told_38 : decode cX7_told 38 = .ok (.aaload, 1) := by decide +kernel
theorem dX7_told_39 : decode cX7_told 39 = .ok (.astore_n 3, 1) := by decide +kernel
theorem dX7_told_40 : decode cX7_told 40 = .ok (.aload_n 3, 1) := by decide +kernel
theorem dX7_told_41 : decode cX7_told 41 = .ok (.instanceof 63, 3) := by decide +kernel
theorem dX7_told_44 : decode cX7_told 44 = .ok (.ifCond .eq 23, 3) := by decide +kernel
theorem dX7_told_47 : decode cX7_told 47 = .ok (.aload_n 3, 1) := by decide +kernel
theorem dX7_told_48 : decode cX7_told 48 = .ok (.checkcast 63, 3) := by decide +kernel
theorem dX7_told_51 : decode cX7_told 51 = .ok (.astore_n 2, 1) := by decide +kernel
theorem dX7_told_52 : decode cX7_told 52 = .ok (.aload_n 2, 1) := by decide +kernel
theorem dX7_told_53 : decode cX7_told 53 = .ok (.getfield 154, 3) := by decide +kernel
theorem dX7_told_56 : decode cX7_told 56 = .ok (.ifCond .eq 8, 3) := by decide +kernel
theorem dX7_told_59 : decode cX7_told 59 = .ok (.bipush 12, 2) := by decide +kernel
theorem dX7_told_61 : decode cX7_told 61 = .ok (.goto 5, 3) := by decide +kernel
theorem dX7_told_64 : decode cX7_told 64 = .ok (.bipush 11, 2) := by decide +kernel
theorem dX7_told_66 : decode cX7_told 66 = .ok (.ireturn, 1) := by decide +kernel
theorem dX7_told_67 : decode cX7_told 67 = .ok (.bipush (-9), 2) := by decide +kernel
theorem dX7_told_69 : decode cX7_told 69 = .ok (.ireturn, 1) := by decide +kernel
theorem dX7_same_0 : decode cX7_same 0 = .ok (.iload_n 1, 1) := by decide +kernel
theorem dX7_same_1 : decode cX7_same 1 = .ok (.invokestatic 36, 3) := by decide +kernel
theorem dX7_same_4 : decode cX7_same 4 = .ok (.ifCond .ne 5, 3) := by decide +kernel
theorem dX7_same_7 : decode cX7_same 7 = .ok (.iconst (-1), 1) := by decide +kernel
theorem dX7_same_8 : decode cX7_same 8 = .ok (.ireturn, 1) := by decide +kernel
theorem dX7_same_9 : decode cX7_same 9 = .ok (.aload_n 0, 1) := by decide +kernel
theorem dX7_same_10 : decode cX7_same 10 = .ok (.getfield 11, 3) := by decide +kernel
theorem dX7_same_13 : decode cX7_same 13 = .ok (.iload_n 1, 1) := by decide +kernel
theorem dX7_same_14 : decode cX7_same 14 = .ok (.aaload, 1) := by decide +kernel
theorem dX7_same_15 : decode cX7_same 15 = .ok (.ifnonnull 5, 3) := by decide +kernel
theorem dX7_same_18 : decode cX7_same 18 = .ok (.iconst 0, 1) := by decide +kernel
theorem dX7_same_19 : decode cX7_same 19 = .ok (.ireturn, 1) := by decide +kernel
theorem dX7_same_20 : decode cX7_same 20 = .ok (.iconst 0, 1) := by decide +kernel
theorem dX7_same_21 : decode cX7_same 21 = .ok (.istore_n 2, 1) := by decide +kernel
theorem dX7_same_22 : decode cX7_same 22 = .ok (.iconst 0, 1) := by decide +kernel
theorem dX7_same_23 : decode cX7_same 23 = .ok (.istore_n 3, 1) := by decide +kernel
theorem dX7_same_24 : decode cX7_same 24 = .ok (.iload_n 3, 1) := by decide +kernel
theorem dX7_same_25 : decode cX7_same 25 = .ok (.bipush 10, 2) := by decide +kernel
theorem dX7_same_27 : decode cX7_same 27 = .ok (.if_icmp .ge 27, 3) := by decide +kernel
theorem dX7_same_30 : decode cX7_same 30 = .ok (.aload_n 0, 1) := by decide +kernel
theorem dX7_same_31 : decode cX7_same 31 = .ok (.getfield 11, 3) := by decide +kernel
theorem dX7_same_34 : decode cX7_same 34 = .ok (.iload_n 3, 1) := by decide +kernel
theorem dX7_same_35 : decode cX7_same 35 = .ok (.aaload, 1) := by decide +kernel
theorem dX7_same_36 : decode cX7_same 36 = .ok (.aload_n 0, 1) := by decide +kernel
theorem dX7_same_37 : decode cX7_same 37 = .ok (.getfield 11, 3) := by decide +kernel
theorem dX7_same_40 : decode cX7_same 40 = .ok (.iload_n 1, 1) := by decide +kernel
theorem dX7_same_41 : decode cX7_same 41 = .ok (.aaload, 1) := by decide +kernel
theorem dX7_same_42 : decode cX7_same 42 = .ok (.if_acmp .ne 6, 3) := by decide +kernel
theorem dX7_same_45 : decode cX7_same 45 = .ok (.iinc 2 1, 3) := by decide +kernel
theorem dX7_same_48 : decode cX7_same 48 = .ok (.iinc 3 1, 3) := by decide +kernel
theorem dX7_same_51 : decode cX7_same 51 = .ok (.goto (-27), 3) := by decide +kernel
theorem dX7_same_54 : decode cX7_same 54 = .ok (.iload_n 2, 1) := by decide +kernel
theorem dX7_same_55 : decode cX7_same 55 = .ok (.ireturn, 1) := by decide +kernel
theorem dX7_isRack_0 : decode cX7_isRack 0 = .ok (.iload_n 0, 1) := by decide +kernel
theorem dX7_isRack_1 : decode cX7_isRack 1 = .ok (.ifCond .lt 13, 3) := by decide +kernel
theorem dX7_isRack_4 : decode cX7_isRack 4 = .ok (.iload_n 0, 1) := by decide +kernel
theorem dX7_isRack_5 : decode cX7_isRack 5 = .ok (.bipush 10, 2) := by decide +kernel
theorem dX7_isRack_7 : decode cX7_isRack 7 = .ok (.if_icmp .ge 7, 3) := by decide +kernel
theorem dX7_isRack_10 : decode cX7_isRack 10 = .ok (.iconst 1, 1) := by decide +kernel
theorem dX7_isRack_11 : decode cX7_isRack 11 = .ok (.goto 4, 3) := by decide +kernel
theorem dX7_isRack_14 : decode cX7_isRack 14 = .ok (.iconst 0, 1) := by decide +kernel
theorem dX7_isRack_15 : decode cX7_isRack 15 = .ok (.ireturn, 1) := by decide +kernel
theorem dX7_isNumberKind_0 : decode cX7_isNumberKind 0 = .ok (.iload_n 0, 1) := by decide +kernel
theorem dX7_isNumberKind_1 : decode cX7_isNumberKind 1 = .ok (.ifCond .lt 13, 3) := by decide +kernel
theorem dX7_isNumberKind_4 : decode cX7_isNumberKind 4 = .ok (.iload_n 0, 1) := by decide +kernel
theorem dX7_isNumberKind_5 : decode cX7_isNumberKind 5 = .ok (.bipush 8, 2) := by decide +kernel
theorem dX7_isNumberKind_7 : decode cX7_isNumberKind 7 = .ok (.if_icmp .ge 7, 3) := by decide +kernel
theorem dX7_isNumberKind_10 : decode cX7_isNumberKind 10 = .ok (.iconst 1, 1) := by decide +kernel
theorem dX7_isNumberKind_11 : decode cX7_isNumberKind 11 = .ok (.goto 4, 3) := by decide +kernel
theorem dX7_isNumberKind_14 : decode cX7_isNumberKind 14 = .ok (.iconst 0, 1) := by decide +kernel
theorem dX7_isNumberKind_15 : decode cX7_isNumberKind 15 = .ok (.ireturn, 1) := by decide +kernel
theorem dX7_goesInto_0 : decode cX7_goesInto 0 = .ok (.iload_n 0, 1) := by decide +kernel
theorem dX7_goesInto_1 : decode cX7_goesInto 1 = .ok (.ifCond .lt 26, 3) := by decide +kernel
theorem dX7_goesInto_4 : decode cX7_goesInto 4 = .ok (.iload_n 0, 1) := by decide +kernel
theorem dX7_goesInto_5 : decode cX7_goesInto 5 = .ok (.bipush 11, 2) := by decide +kernel
theorem dX7_goesInto_7 : decode cX7_goesInto 7 = .ok (.if_icmp .ge 20, 3) := by decide +kernel
theorem dX7_goesInto_10 : decode cX7_goesInto 10 = .ok (.getstatic 158, 3) := by decide +kernel
theorem dX7_goesInto_13 : decode cX7_goesInto 13 = .ok (.iload_n 0, 1) := by decide +kernel
theorem dX7_goesInto_14 : decode cX7_goesInto 14 = .ok (.iaload, 1) := by decide +kernel
theorem dX7_goesInto_15 : decode cX7_goesInto 15 = .ok (.iload_n 1, 1) := by decide +kernel
theorem dX7_goesInto_16 : decode cX7_goesInto 16 = .ok (.ishr, 1) := by decide +kernel
theorem dX7_goesInto_17 : decode cX7_goesInto 17 = .ok (.iconst 1, 1) := by decide +kernel
theorem dX7_goesInto_18 : decode cX7_goesInto 18 = .ok (.iand, 1) := by decide +kernel
theorem dX7_goesInto_19 : decode cX7_goesInto 19 = .ok (.iconst 1, 1) := by decide +kernel
theorem dX7_goesInto_20 : decode cX7_goesInto 20 = .ok (.if_icmp .ne 7, 3) := by decide +kernel
theorem dX7_goesInto_23 : decode cX7_goesInto 23 = .ok (.iconst 1, 1) := by decide +kernel
theorem dX7_goesInto_24 : decode cX7_goesInto 24 = .ok (.goto 4, 3) := by decide +kernel
theorem dX7_goesInto_27 : decode cX7_goesInto 27 = .ok (.iconst 0, 1) := by decide +kernel
theorem dX7_goesInto_28 : decode cX7_goesInto 28 = .ok (.ireturn, 1) := by decide +kernel
theorem dX7_asKind_0 : decode cX7_asKind 0 = .ok (.iload_n 0, 1) := by decide +kernel
theorem dX7_asKind_1 : decode cX7_asKind 1 = .ok (.tableswitch 80 0 6 #[43, 55, 60, 65, 70, 74, 76], 43) := by decide +kernel
theorem dX7_asKind_44 : decode cX7_asKind 44 = .ok (.lload_n 1, 1) := by decide +kernel
theorem dX7_asKind_45 : decode cX7_asKind 45 = .ok (.lconst 0, 1) := by decide +kernel
theorem dX7_asKind_46 : decode cX7_asKind 46 = .ok (.lcmp, 1) := by decide +kernel
theorem dX7_asKind_47 : decode cX7_asKind 47 = .ok (.ifCond .eq 7, 3) := by decide +kernel
theorem dX7_asKind_50 : decode cX7_asKind 50 = .ok (.lconst 1, 1) := by decide +kernel
theorem dX7_asKind_51 : decode cX7_asKind 51 = .ok (.goto 4, 3) := by decide +kernel
theorem dX7_asKind_54 : decode cX7_asKind 54 = .ok (.lconst 0, 1) := by decide +kernel
theorem dX7_asKind_55 : decode cX7_asKind 55 = .ok (.lreturn, 1) := by decide +kernel
theorem dX7_asKind_56 : decode cX7_asKind 56 = .ok (.lload_n 1, 1) := by decide +kernel
theorem dX7_asKind_57 : decode cX7_asKind 57 = .ok (.l2i, 1) := by decide +kernel
theorem dX7_asKind_58 : decode cX7_asKind 58 = .ok (.i2b, 1) := by decide +kernel
theorem dX7_asKind_59 : decode cX7_asKind 59 = .ok (.i2l, 1) := by decide +kernel
theorem dX7_asKind_60 : decode cX7_asKind 60 = .ok (.lreturn, 1) := by decide +kernel
theorem dX7_asKind_61 : decode cX7_asKind 61 = .ok (.lload_n 1, 1) := by decide +kernel
theorem dX7_asKind_62 : decode cX7_asKind 62 = .ok (.l2i, 1) := by decide +kernel
theorem dX7_asKind_63 : decode cX7_asKind 63 = .ok (.i2c, 1) := by decide +kernel
theorem dX7_asKind_64 : decode cX7_asKind 64 = .ok (.i2l, 1) := by decide +kernel
theorem dX7_asKind_65 : decode cX7_asKind 65 = .ok (.lreturn, 1) := by decide +kernel
theorem dX7_asKind_66 : decode cX7_asKind 66 = .ok (.lload_n 1, 1) := by decide +kernel
theorem dX7_asKind_67 : decode cX7_asKind 67 = .ok (.l2i, 1) := by decide +kernel
theorem dX7_asKind_68 : decode cX7_asKind 68 = .ok (.i2s, 1) := by decide +kernel
theorem dX7_asKind_69 : decode cX7_asKind 69 = .ok (.i2l, 1) := by decide +kernel
theorem dX7_asKind_70 : decode cX7_asKind 70 = .ok (.lreturn, 1) := by decide +kernel
theorem dX7_asKind_71 : decode cX7_asKind 71 = .ok (.lload_n 1, 1) := by decide +kernel
theorem dX7_asKind_72 : decode cX7_asKind 72 = .ok (.l2i, 1) := by decide +kernel
theorem dX7_asKind_73 : decode cX7_asKind 73 = .ok (.i2l, 1) := by decide +kernel
theorem dX7_asKind_74 : decode cX7_asKind 74 = .ok (.lreturn, 1) := by decide +kernel
theorem dX7_asKind_75 : decode cX7_asKind 75 = .ok (.lload_n 1, 1) := by decide +kernel
theorem dX7_asKind_76 : decode cX7_asKind 76 = .ok (.lreturn, 1) := by decide +kernel
theorem dX7_asKind_77 : decode cX7_asKind 77 = .ok (.lload_n 1, 1) := by decide +kernel
theorem dX7_asKind_78 : decode cX7_asKind 78 = .ok (.l2f, 1) := by decide +kernel
theorem dX7_asKind_79 : decode cX7_asKind 79 = .ok (.f2l, 1) := by decide +kernel
theorem dX7_asKind_80 : decode cX7_asKind 80 = .ok (.lreturn, 1) := by decide +kernel
theorem dX7_asKind_81 : decode cX7_asKind 81 = .ok (.lload_n 1, 1) := by decide +kernel
theorem dX7_asKind_82 : decode cX7_asKind 82 = .ok (.l2d, 1) := by decide +kernel
theorem dX7_asKind_83 : decode cX7_asKind 83 = .ok (.d2l, 1) := by decide +kernel
theorem dX7_asKind_84 : decode cX7_asKind 84 = .ok (.lreturn, 1) := by decide +kernel
theorem dX7_answer_0 : decode cX7_answer 0 = .ok (.iload_n 1, 1) := by decide +kernel
theorem dX7_answer_1 : decode cX7_answer 1 = .ok (.ifCond .ne 5, 3) := by decide +kernel
theorem dX7_answer_4 : decode cX7_answer 4 = .ok (.iload_n 2, 1) := by decide +kernel
theorem dX7_answer_5 : decode cX7_answer 5 = .ok (.ireturn, 1) := by decide +kernel
theorem dX7_answer_6 : decode cX7_answer 6 = .ok (.aload_n 0, 1) := by decide +kernel
theorem dX7_answer_7 : decode cX7_answer 7 = .ok (.iload_n 1, 1) := by decide +kernel
theorem dX7_answer_8 : decode cX7_answer 8 = .ok (.invokevirtual 117, 3) := by decide +kernel
theorem dX7_answer_11 : decode cX7_answer 11 = .ok (.bipush (-10), 2) := by decide +kernel
theorem dX7_answer_13 : decode cX7_answer 13 = .ok (.iload_n 1, 1) := by decide +kernel
theorem dX7_answer_14 : decode cX7_answer 14 = .ok (.isub, 1) := by decide +kernel
theorem dX7_answer_15 : decode cX7_answer 15 = .ok (.ireturn, 1) := by decide +kernel
theorem dX7_countFault_0 : decode cX7_countFault 0 = .ok (.aload_n 0, 1) := by decide +kernel
theorem dX7_countFault_1 : decode cX7_countFault 1 = .ok (.iload_n 1, 1) := by decide +kernel
theorem dX7_countFault_2 : decode cX7_countFault 2 = .ok (.putfield 148, 3) := by decide +kernel
theorem dX7_countFault_5 : decode cX7_countFault 5 = .ok (.aload_n 0, 1) := by decide +kernel
theorem dX7_countFault_6 : decode cX7_countFault 6 = .ok (.getfield 32, 3) := by decide +kernel
theorem dX7_countFault_9 : decode cX7_countFault 9 = .ok (.iload_n 1, 1) := by decide +kernel
theorem dX7_countFault_10 : decode cX7_countFault 10 = .ok (.dup2, 1) := by decide +kernel
theorem dX7_countFault_11 : decode cX7_countFault 11 = .ok (.iaload, 1) := by decide +kernel
theorem dX7_countFault_12 : decode cX7_countFault 12 = .ok (.iconst 1, 1) := by decide +kernel
theorem dX7_countFault_13 : decode cX7_countFault 13 = .ok (.iadd, 1) := by decide +kernel
theorem dX7_countFault_14 : decode cX7_countFault 14 = .ok (.iastore, 1) := by decide +kernel
theorem dX7_countFault_15 : decode cX7_countFault 15 = .ok (.aload_n 0, 1) := by decide +kernel
theorem dX7_countFault_16 : decode cX7_countFault 16 = .ok (.getfield 32, 3) := by decide +kernel
theorem dX7_countFault_19 : decode cX7_countFault 19 = .ok (.iconst 0, 1) := by decide +kernel
theorem dX7_countFault_20 : decode cX7_countFault 20 = .ok (.dup2, 1) := by decide +kernel
theorem dX7_countFault_21 : decode cX7_countFault 21 = .ok (.iaload, 1) := by decide +kernel
theorem dX7_countFault_22 : decode cX7_countFault 22 = .ok (.iconst 1, 1) := by decide +kernel
theorem dX7_countFault_23 : decode cX7_countFault 23 = .ok (.iadd, 1) := by decide +kernel
theorem dX7_countFault_24 : decode cX7_countFault 24 = .ok (.iastore, 1) := by decide +kernel
theorem dX7_countFault_25 : decode cX7_countFault 25 = .ok (.return_, 1) := by decide +kernel
theorem dX7_rowFault_0 : decode cX7_rowFault 0 = .ok (.aload_n 0, 1) := by decide +kernel
theorem dX7_rowFault_1 : decode cX7_rowFault 1 = .ok (.ifnonnull 5, 3) := by decide +kernel
theorem dX7_rowFault_4 : decode cX7_rowFault 4 = .ok (.iconst 1, 1) := by decide +kernel
theorem dX7_rowFault_5 : decode cX7_rowFault 5 = .ok (.ireturn, 1) := by decide +kernel
theorem dX7_rowFault_6 : decode cX7_rowFault 6 = .ok (.aload_n 0, 1) := by decide +kernel
theorem dX7_rowFault_7 : decode cX7_rowFault 7 = .ok (.instanceof 151, 3) := by decide +kernel
theorem dX7_rowFault_10 : decode cX7_rowFault 10 = .ok (.ifCond .eq 7, 3) := by decide +kernel
theorem dX7_rowFault_13 : decode cX7_rowFault 13 = .ok (.iconst 0, 1) := by decide +kernel
theorem dX7_rowFault_14 : decode cX7_rowFault 14 = .ok (.goto 4, 3) := by decide +kernel
theorem dX7_rowFault_17 : decode cX7_rowFault 17 = .ok (.iconst 2, 1) := by decide +kernel
theorem dX7_rowFault_18 : decode cX7_rowFault 18 = .ok (.ireturn, 1) := by decide +kernel
theorem dX7_placeFault_0 : decode cX7_placeFault 0 = .ok (.aload_n 0, 1) := by decide +kernel
theorem dX7_placeFault_1 : decode cX7_placeFault 1 = .ok (.invokestatic 98, 3) := by decide +kernel
theorem dX7_placeFault_4 : decode cX7_placeFault 4 = .ok (.istore_n 2, 1) := by decide +kernel
theorem dX7_placeFault_5 : decode cX7_placeFault 5 = .ok (.iload_n 2, 1) := by decide +kernel
theorem dX7_placeFault_6 : decode cX7_placeFault 6 = .ok (.ifCond .eq 5, 3) := by decide +kernel
theorem dX7_placeFault_9 : decode cX7_placeFault 9 = .ok (.iload_n 2, 1) := by decide +kernel
theorem dX7_placeFault_10 : decode cX7_placeFault 10 = .ok (.ireturn, 1) := by decide +kernel
theorem dX7_placeFault_11 : decode cX7_placeFault 11 = .ok (.iload_n 1, 1) := by decide +kernel
theorem dX7_placeFault_12 : decode cX7_placeFault 12 = .ok (.ifCond .lt 11, 3) := by decide +kernel
theorem dX7_placeFault_15 : decode cX7_placeFault 15 = .ok (.iload_n 1, 1) := by decide +kernel
theorem dX7_placeFault_16 : decode cX7_placeFault 16 = .ok (.aload_n 0, 1) := by decide +kernel
theorem dX7_placeFault_17 : decode cX7_placeFault 17 = .ok (.invokestatic 102, 3) := by decide +kernel
theorem dX7_placeFault_20 : decode cX7_placeFault 20 = .ok (.if_icmp .lt 7, 3) := by decide +kernel
theorem dX7_placeFault_23 : decode cX7_placeFault 23 = .ok (.iconst 3, 1) := by decide +kernel
theorem dX7_placeFault_24 : decode cX7_placeFault 24 = .ok (.goto 4, 3) := by decide +kernel
theorem dX7_placeFault_27 : decode cX7_placeFault 27 = .ok (.iconst 0, 1) := by decide +kernel
theorem dX7_placeFault_28 : decode cX7_placeFault 28 = .ok (.ireturn, 1) := by decide +kernel
theorem dX7_placesOf_0 : decode cX7_placesOf 0 = .ok (.aload_n 0, 1) := by decide +kernel
theorem dX7_placesOf_1 : decode cX7_placesOf 1 = .ok (.instanceof 151, 3) := by decide +kernel
theorem dX7_placesOf_4 : decode cX7_placesOf 4 = .ok (.ifCond .eq 15, 3) := by decide +kernel
theorem dX7_placesOf_7 : decode cX7_placesOf 7 = .ok (.aload_n 0, 1) := by decide +kernel
theorem dX7_placesOf_8 : decode cX7_placesOf 8 = .ok (.checkcast 151, 3) := by decide +kernel
theorem dX7_placesOf_11 : decode cX7_placesOf 11 = .ok (.astore_n 1, 1) := by decide +kernel
theorem dX7_placesOf_12 : decode cX7_placesOf 12 = .ok (.aload_n 1, 1) := by decide +kernel
theorem dX7_placesOf_13 : decode cX7_placesOf 13 = .ok (.getfield 161, 3) := by decide +kernel
theorem dX7_placesOf_16 : decode cX7_placesOf 16 = .ok (.goto 4, 3) := by decide +kernel
theorem dX7_placesOf_19 : decode cX7_placesOf 19 = .ok (.iconst 0, 1) := by decide +kernel
theorem dX7_placesOf_20 : decode cX7_placesOf 20 = .ok (.ireturn, 1) := by decide +kernel
theorem dX7_getPlace_0 : decode cX7_getPlace 0 = .ok (.aload_n 0, 1) := by decide +kernel
theorem dX7_getPlace_1 : decode cX7_getPlace 1 = .ok (.iload_n 1, 1) := by decide +kernel
theorem dX7_getPlace_2 : decode cX7_getPlace 2 = .ok (.invokestatic 121, 3) := by decide +kernel
theorem dX7_getPlace_5 : decode cX7_getPlace 5 = .ok (.istore_n 3, 1) := by decide +kernel
theorem dX7_getPlace_6 : decode cX7_getPlace 6 = .ok (.iload_n 3, 1) := by decide +kernel
theorem dX7_getPlace_7 : decode cX7_getPlace 7 = .ok (.ifCond .eq 5, 3) := by decide +kernel
theorem dX7_getPlace_10 : decode cX7_getPlace 10 = .ok (.iload_n 3, 1) := by decide +kernel
theorem dX7_getPlace_11 : decode cX7_getPlace 11 = .ok (.ireturn, 1) := by decide +kernel
theorem dX7_getPlace_12 : decode cX7_getPlace 12 = .ok (.aload_n 0, 1) := by decide +kernel
theorem dX7_getPlace_13 : decode cX7_getPlace 13 = .ok (.instanceof 43, 3) := by decide +kernel
theorem dX7_getPlace_16 : decode cX7_getPlace 16 = .ok (.ifCond .eq 28, 3) := by decide +kernel
theorem dX7_getPlace_19 : decode cX7_getPlace 19 = .ok (.aload_n 0, 1) := by decide +kernel
theorem dX7_getPlace_20 : decode cX7_getPlace 20 = .ok (.checkcast 43, 3) := by decide +kernel
theorem dX7_getPlace_23 : decode cX7_getPlace 23 = .ok (.astore 4, 2) := by decide +kernel
theorem dX7_getPlace_25 : decode cX7_getPlace 25 = .ok (.aload_n 2, 1) := by decide +kernel
theorem dX7_getPlace_26 : decode cX7_getPlace 26 = .ok (.aload 4, 2) := by decide +kernel
theorem dX7_getPlace_28 : decode cX7_getPlace 28 = .ok (.getfield 164, 3) := by decide +kernel
theorem dX7_getPlace_31 : decode cX7_getPlace 31 = .ok (.aload 4, 2) := by decide +kernel
theorem dX7_getPlace_33 : decode cX7_getPlace 33 = .ok (.getfield 165, 3) := by decide +kernel
theorem dX7_getPlace_36 : decode cX7_getPlace 36 = .ok (.iload_n 1, 1) := by decide +kernel
theorem dX7_getPlace_37 : decode cX7_getPlace 37 = .ok (.laload, 1) := by decide +kernel
theorem dX7_getPlace_38 : decode cX7_getPlace 38 = .ok (.invokevirtual 55, 3) := by decide +kernel
theorem dX7_getPlace_41 : decode cX7_getPlace 41 = .ok (.goto 27, 3) := by decide +kernel
theorem dX7_getPlace_44 : decode cX7_getPlace 44 = .ok (.aload_n 0, 1) := by decide +kernel
theorem dX7_getPlace_45 : decode cX7_getPlace 45 = .ok (.instanceof 48, 3) := by decide +kernel
theorem dX7_getPlace_48 : decode cX7_getPlace 48 = .ok (.ifCond .eq 20, 3) := by decide +kernel
theorem dX7_getPlace_51 : decode cX7_getPlace 51 = .ok (.aload_n 0, 1) := by decide +kernel
theorem dX7_getPlace_52 : decode cX7_getPlace 52 = .ok (.checkcast 48, 3) := by decide +kernel
theorem dX7_getPlace_55 : decode cX7_getPlace 55 = .ok (.astore 5, 2) := by decide +kernel
theorem dX7_getPlace_57 : decode cX7_getPlace 57 = .ok (.aload_n 2, 1) := by decide +kernel
theorem dX7_getPlace_58 : decode cX7_getPlace 58 = .ok (.aload 5, 2) := by decide +kernel
theorem dX7_getPlace_60 : decode cX7_getPlace 60 = .ok (.getfield 169, 3) := by decide +kernel
theorem dX7_getPlace_63 : decode cX7_getPlace 63 = .ok (.iload_n 1, 1) := by decide +kernel
theorem dX7_getPlace_64 : decode cX7_getPlace 64 = .ok (.aaload, 1) := by decide +kernel
theorem dX7_getPlace_65 : decode cX7_getPlace 65 = .ok (.invokevirtual 68, 3) := by decide +kernel
theorem dX7_getPlace_68 : decode cX7_getPlace 68 = .ok (.iconst 0, 1) := by decide +kernel
theorem dX7_getPlace_69 : decode cX7_getPlace 69 = .ok (.ireturn, 1) := by decide +kernel
theorem dX7_setPlace_0 : decode cX7_setPlace 0 = .ok (.aload_n 0, 1) := by decide +kernel
theorem dX7_setPlace_1 : decode cX7_setPlace 1 = .ok (.ifnonnull 5, 3) := by decide +kernel
theorem dX7_setPlace_4 : decode cX7_setPlace 4 = .ok (.iconst 1, 1) := by decide +kernel
theorem dX7_setPlace_5 : decode cX7_setPlace 5 = .ok (.ireturn, 1) := by decide +kernel
theorem dX7_setPlace_6 : decode cX7_setPlace 6 = .ok (.aload_n 0, 1) := by decide +kernel
theorem dX7_setPlace_7 : decode cX7_setPlace 7 = .ok (.instanceof 43, 3) := by decide +kernel
theorem dX7_setPlace_10 : decode cX7_setPlace 10 = .ok (.ifCond .eq 15, 3) := by decide +kernel
theorem dX7_setPlace_13 : decode cX7_setPlace 13 = .ok (.aload_n 0, 1) := by decide +kernel
theorem dX7_setPlace_14 : decode cX7_setPlace 14 = .ok (.checkcast 43, 3) := by decide +kernel
theorem dX7_setPlace_17 : decode cX7_setPlace 17 = .ok (.astore_n 3, 1) := by decide +kernel
theorem dX7_setPlace_18 : decode cX7_setPlace 18 = .ok (.aload_n 3, 1) := by decide +kernel
theorem dX7_setPlace_19 : decode cX7_setPlace 19 = .ok (.iload_n 1, 1) := by decide +kernel
theorem dX7_setPlace_20 : decode cX7_setPlace 20 = .ok (.aload_n 2, 1) := by decide +kernel
theorem dX7_setPlace_21 : decode cX7_setPlace 21 = .ok (.invokestatic 172, 3) := by decide +kernel
theorem dX7_setPlace_24 : decode cX7_setPlace 24 = .ok (.ireturn, 1) := by decide +kernel
theorem dX7_setPlace_25 : decode cX7_setPlace 25 = .ok (.aload_n 0, 1) := by decide +kernel
theorem dX7_setPlace_26 : decode cX7_setPlace 26 = .ok (.instanceof 48, 3) := by decide +kernel
theorem dX7_setPlace_29 : decode cX7_setPlace 29 = .ok (.ifCond .eq 15, 3) := by decide +kernel
theorem dX7_setPlace_32 : decode cX7_setPlace 32 = .ok (.aload_n 0, 1) := by decide +kernel
theorem dX7_setPlace_33 : decode cX7_setPlace 33 = .ok (.checkcast 48, 3) := by decide +kernel
theorem dX7_setPlace_36 : decode cX7_setPlace 36 = .ok (.astore_n 3, 1) := by decide +kernel
theorem dX7_setPlace_37 : decode cX7_setPlace 37 = .ok (.aload_n 3, 1) := by decide +kernel
theorem dX7_setPlace_38 : decode cX7_setPlace 38 = .ok (.iload_n 1, 1) := by decide +kernel
theorem dX7_setPlace_39 : decode cX7_setPlace 39 = .ok (.aload_n 2, 1) := by decide +kernel
theorem dX7_setPlace_40 : decode cX7_setPlace 40 = .ok (.invokestatic 176, 3) := by decide +kernel
theorem dX7_setPlace_43 : decode cX7_setPlace 43 = .ok (.ireturn, 1) := by decide +kernel
theorem dX7_setPlace_44 : decode cX7_setPlace 44 = .ok (.iconst 2, 1) := by decide +kernel
theorem dX7_setPlace_45 : decode cX7_setPlace 45 = .ok (.ireturn, 1) := by decide +kernel
theorem dX7_setNumber_0 : decode cX7_setNumber 0 = .ok (.aload_n 2, 1) := by decide +kernel
theorem dX7_setNumber_1 : decode cX7_setNumber 1 = .ok (.getfield 76, 3) := by decide +kernel
theorem dX7_setNumber_4 : decode cX7_setNumber 4 = .ok (.bipush (-9), 2) := by decide +kernel
theorem dX7_setNumber_6 : decode cX7_setNumber 6 = .ok (.if_icmp .ne 5, 3) := by decide +kernel
theorem dX7_setNumber_9 : decode cX7_setNumber 9 = .ok (.iconst 2, 1) := by decide +kernel
theorem dX7_setNumber_10 : decode cX7_setNumber 10 = .ok (.ireturn, 1) := by decide +kernel
theorem dX7_setNumber_11 : decode cX7_setNumber 11 = .ok (.aload_n 0, 1) := by decide +kernel
theorem dX7_setNumber_12 : decode cX7_setNumber 12 = .ok (.iload_n 1, 1) := by decide +kernel
theorem dX7_setNumber_13 : decode cX7_setNumber 13 = .ok (.aload_n 2, 1) := by decide +kernel
theorem dX7_setNumber_14 : decode cX7_setNumber 14 = .ok (.getfield 76, 3) := by decide +kernel
theorem dX7_setNumber_17 : decode cX7_setNumber 17 = .ok (.aload_n 2, 1) := by decide +kernel
theorem dX7_setNumber_18 : decode cX7_setNumber 18 = .ok (.getfield 90, 3) := by decide +kernel
theorem dX7_setNumber_21 : decode cX7_setNumber 21 = .ok (.invokestatic 94, 3) := by decide +kernel
theorem dX7_setNumber_24 : decode cX7_setNumber 24 = .ok (.ireturn, 1) := by decide +kernel
theorem dX7_setThing_0 : decode cX7_setThing 0 = .ok (.iload_n 1, 1) := by decide +kernel
theorem dX7_setThing_1 : decode cX7_setThing 1 = .ok (.ifCond .lt 11, 3) := by decide +kernel
theorem dX7_setThing_4 : decode cX7_setThing 4 = .ok (.iload_n 1, 1) := by decide +kernel
theorem dX7_setThing_5 : decode cX7_setThing 5 = .ok (.aload_n 0, 1) := by decide +kernel
theorem dX7_setThing_6 : decode cX7_setThing 6 = .ok (.getfield 180, 3) := by decide +kernel
theorem dX7_setThing_9 : decode cX7_setThing 9 = .ok (.if_icmp .lt 5, 3) := by decide +kernel
theorem dX7_setThing_12 : decode cX7_setThing 12 = .ok (.iconst 3, 1) := by decide +kernel
theorem dX7_setThing_13 : decode cX7_setThing 13 = .ok (.ireturn, 1) := by decide +kernel
theorem dX7_setThing_14 : decode cX7_setThing 14 = .ok (.aload_n 2, 1) := by decide +kernel
theorem dX7_setThing_15 : decode cX7_setThing 15 = .ok (.getfield 76, 3) := by decide +kernel
theorem dX7_setThing_18 : decode cX7_setThing 18 = .ok (.bipush (-9), 2) := by decide +kernel
theorem dX7_setThing_20 : decode cX7_setThing 20 = .ok (.if_icmp .eq 19, 3) := by decide +kernel
theorem dX7_setThing_23 : decode cX7_setThing 23 = .ok (.aload_n 2, 1) := by decide +kernel
theorem dX7_setThing_24 : decode cX7_setThing 24 = .ok (.getfield 76, 3) := by decide +kernel
theorem dX7_setThing_27 : decode cX7_setThing 27 = .ok (.aload_n 0, 1) := by decide +kernel
theorem dX7_setThing_28 : decode cX7_setThing 28 = .ok (.getfield 181, 3) := by decide +kernel
theorem dX7_setThing_31 : decode cX7_setThing 31 = .ok (.invokestatic 182, 3) := by decide +kernel
theorem dX7_setThing_34 : decode cX7_setThing 34 = .ok (.ifCond .ne 5, 3) := by decide +kernel
theorem dX7_setThing_37 : decode cX7_setThing 37 = .ok (.iconst 2, 1) := by decide +kernel
theorem dX7_setThing_38 : decode cX7_setThing 38 = .ok (.ireturn, 1) := by decide +kernel
theorem dX7_setThing_39 : decode cX7_setThing 39 = .ok (.aload_n 0, 1) := by decide +kernel
theorem dX7_setThing_40 : decode cX7_setThing 40 = .ok (.getfield 169, 3) := by decide +kernel
theorem dX7_setThing_43 : decode cX7_setThing 43 = .ok (.iload_n 1, 1) := by decide +kernel
theorem dX7_setThing_44 : decode cX7_setThing 44 = .ok (.aload_n 2, 1) := by decide +kernel
theorem dX7_setThing_45 : decode cX7_setThing 45 = .ok (.getfield 51, 3) := by decide +kernel
theorem dX7_setThing_48 : decode cX7_setThing 48 = .ok (.aastore, 1) := by decide +kernel
theorem dX7_setThing_49 : decode cX7_setThing 49 = .ok (.iconst 0, 1) := by decide +kernel
theorem dX7_setThing_50 : decode cX7_setThing 50 = .ok (.ireturn, 1) := by decide +kernel
theorem dX7_readPlace_0 : decode cX7_readPlace 0 = .ok (.aload_n 0, 1) := by decide +kernel
theorem dX7_readPlace_1 : decode cX7_readPlace 1 = .ok (.ifnonnull 5, 3) := by decide +kernel
theorem dX7_readPlace_4 : decode cX7_readPlace 4 = .ok (.iconst 1, 1) := by decide +kernel
theorem dX7_readPlace_5 : decode cX7_readPlace 5 = .ok (.ireturn, 1) := by decide +kernel
theorem dX7_readPlace_6 : decode cX7_readPlace 6 = .ok (.aload_n 0, 1) := by decide +kernel
theorem dX7_readPlace_7 : decode cX7_readPlace 7 = .ok (.instanceof 43, 3) := by decide +kernel
theorem dX7_readPlace_10 : decode cX7_readPlace 10 = .ok (.ifCond .eq 52, 3) := by decide +kernel
theorem dX7_readPlace_13 : decode cX7_readPlace 13 = .ok (.aload_n 0, 1) := by decide +kernel
theorem dX7_readPlace_14 : decode cX7_readPlace 14 = .ok (.checkcast 43, 3) := by decide +kernel
theorem dX7_readPlace_17 : decode cX7_readPlace 17 = .ok (.astore 4, 2) := by decide +kernel
theorem dX7_readPlace_19 : decode cX7_readPlace 19 = .ok (.iload_n 1, 1) := by decide +kernel
theorem dX7_readPlace_20 : decode cX7_readPlace 20 = .ok (.ifCond .lt 12, 3) := by decide +kernel
theorem dX7_readPlace_23 : decode cX7_readPlace 23 = .ok (.iload_n 1, 1) := by decide +kernel
theorem dX7_readPlace_24 : decode cX7_readPlace 24 = .ok (.aload 4, 2) := by decide +kernel
theorem dX7_readPlace_26 : decode cX7_readPlace 26 = .ok (.getfield 186, 3) := by decide +kernel
theorem dX7_readPlace_29 : decode cX7_readPlace 29 = .ok (.if_icmp .lt 5, 3) := by decide +kernel
theorem dX7_readPlace_32 : decode cX7_readPlace 32 = .ok (.iconst 3, 1) := by decide +kernel
theorem dX7_readPlace_33 : decode cX7_readPlace 33 = .ok (.ireturn, 1) := by decide +kernel
theorem dX7_readPlace_34 : decode cX7_readPlace 34 = .ok (.aload 4, 2) := by decide +kernel
theorem dX7_readPlace_36 : decode cX7_readPlace 36 = .ok (.getfield 164, 3) := by decide +kernel
theorem dX7_readPlace_39 : decode cX7_readPlace 39 = .ok (.iload_n 2, 1) := by decide +kernel
theorem dX7_readPlace_40 : decode cX7_readPlace 40 = .ok (.invokestatic 182, 3) := by decide +kernel
theorem dX7_readPlace_43 : decode cX7_readPlace 43 = .ok (.ifCond .ne 5, 3) := by decide +kernel
theorem dX7_readPlace_46 : decode cX7_readPlace 46 = .ok (.iconst 2, 1) := by decide +kernel
theorem dX7_readPlace_47 : decode cX7_readPlace 47 = .ok (.ireturn, 1) := by decide +kernel
theorem dX7_readPlace_48 : decode cX7_readPlace 48 = .ok (.aload_n 3, 1) := by decide +kernel
theorem dX7_readPlace_49 : decode cX7_readPlace 49 = .ok (.iload_n 2, 1) := by decide +kernel
theorem dX7_readPlace_50 : decode cX7_readPlace 50 = .ok (.aload 4, 2) := by decide +kernel
theorem dX7_readPlace_52 : decode cX7_readPlace 52 = .ok (.getfield 165, 3) := by decide +kernel
theorem dX7_readPlace_55 : decode cX7_readPlace 55 = .ok (.iload_n 1, 1) := by decide +kernel
theorem dX7_readPlace_56 : decode cX7_readPlace 56 = .ok (.laload, 1) := by decide +kernel
theorem dX7_readPlace_57 : decode cX7_readPlace 57 = .ok (.invokevirtual 55, 3) := by decide +kernel
theorem dX7_readPlace_60 : decode cX7_readPlace 60 = .ok (.iconst 0, 1) := by decide +kernel
theorem dX7_readPlace_61 : decode cX7_readPlace 61 = .ok (.ireturn, 1) := by decide +kernel
theorem dX7_readPlace_62 : decode cX7_readPlace 62 = .ok (.iconst 2, 1) := by decide +kernel
theorem dX7_readPlace_63 : decode cX7_readPlace 63 = .ok (.ireturn, 1) := by decide +kernel
theorem dX7_writePlace_0 : decode cX7_writePlace 0 = .ok (.aload_n 0, 1) := by decide +kernel
theorem dX7_writePlace_1 : decode cX7_writePlace 1 = .ok (.ifnonnull 5, 3) := by decide +kernel
theorem dX7_writePlace_4 : decode cX7_writePlace 4 = .ok (.iconst 1, 1) := by decide +kernel
theorem dX7_writePlace_5 : decode cX7_writePlace 5 = .ok (.ireturn, 1) := by decide +kernel
theorem dX7_writePlace_6 : decode cX7_writePlace 6 = .ok (.aload_n 0, 1) := by decide +kernel
theorem dX7_writePlace_7 : decode cX7_writePlace 7 = .ok (.instanceof 43, 3) := by decide +kernel
theorem dX7_writePlace_10 : decode cX7_writePlace 10 = .ok (.ifCond .eq 60, 3) := by decide +kernel
theorem dX7_writePlace_13 : decode cX7_writePlace 13 = .ok (.aload_n 0, 1) := by decide +kernel
theorem dX7_writePlace_14 : decode cX7_writePlace 14 = .ok (.checkcast 43, 3) := by decide +kernel
theorem dX7_writePlace_17 : decode cX7_writePlace 17 = .ok (.astore 5, 2) := by decide +kernel
theorem dX7_writePlace_19 : decode cX7_writePlace 19 = .ok (.iload_n 1, 1) := by decide +kernel
theorem dX7_writePlace_20 : decode cX7_writePlace 20 = .ok (.ifCond .lt 12, 3) := by decide +kernel
theorem dX7_writePlace_23 : decode cX7_writePlace 23 = .ok (.iload_n 1, 1) := by decide +kernel
theorem dX7_writePlace_24 : decode cX7_writePlace 24 = .ok (.aload 5, 2) := by decide +kernel
theorem dX7_writePlace_26 : decode cX7_writePlace 26 = .ok (.getfield 186, 3) := by decide +kernel
theorem dX7_writePlace_29 : decode cX7_writePlace 29 = .ok (.if_icmp .lt 5, 3) := by decide +kernel
theorem dX7_writePlace_32 : decode cX7_writePlace 32 = .ok (.iconst 3, 1) := by decide +kernel
theorem dX7_writePlace_33 : decode cX7_writePlace 33 = .ok (.ireturn, 1) := by decide +kernel
theorem dX7_writePlace_34 : decode cX7_writePlace 34 = .ok (.iload_n 2, 1) := by decide +kernel
theorem dX7_writePlace_35 : decode cX7_writePlace 35 = .ok (.aload 5, 2) := by decide +kernel
theorem dX7_writePlace_37 : decode cX7_writePlace 37 = .ok (.getfield 164, 3) := by decide +kernel
theorem dX7_writePlace_40 : decode cX7_writePlace 40 = .ok (.invokestatic 182, 3) := by decide +kernel
theorem dX7_writePlace_43 : decode cX7_writePlace 43 = .ok (.ifCond .ne 5, 3) := by decide +kernel
theorem dX7_writePlace_46 : decode cX7_writePlace 46 = .ok (.iconst 2, 1) := by decide +kernel
theorem dX7_writePlace_47 : decode cX7_writePlace 47 = .ok (.ireturn, 1) := by decide +kernel
theorem dX7_writePlace_48 : decode cX7_writePlace 48 = .ok (.aload 5, 2) := by decide +kernel
theorem dX7_writePlace_50 : decode cX7_writePlace 50 = .ok (.getfield 165, 3) := by decide +kernel
theorem dX7_writePlace_53 : decode cX7_writePlace 53 = .ok (.iload_n 1, 1) := by decide +kernel
theorem dX7_writePlace_54 : decode cX7_writePlace 54 = .ok (.aload 5, 2) := by decide +kernel
theorem dX7_writePlace_56 : decode cX7_writePlace 56 = .ok (.getfield 164, 3) := by decide +kernel
theorem dX7_writePlace_59 : decode cX7_writePlace 59 = .ok (.iload_n 2, 1) := by decide +kernel
theorem dX7_writePlace_60 : decode cX7_writePlace 60 = .ok (.lload_n 3, 1) := by decide +kernel
theorem dX7_writePlace_61 : decode cX7_writePlace 61 = .ok (.invokestatic 187, 3) := by decide +kernel
theorem dX7_writePlace_64 : decode cX7_writePlace 64 = .ok (.invokestatic 187, 3) := by decide +kernel
theorem dX7_writePlace_67 : decode cX7_writePlace 67 = .ok (.lastore, 1) := by decide +kernel
theorem dX7_writePlace_68 : decode cX7_writePlace 68 = .ok (.iconst 0, 1) := by decide +kernel
theorem dX7_writePlace_69 : decode cX7_writePlace 69 = .ok (.ireturn, 1) := by decide +kernel
theorem dX7_writePlace_70 : decode cX7_writePlace 70 = .ok (.iconst 2, 1) := by decide +kernel
theorem dX7_writePlace_71 : decode cX7_writePlace 71 = .ok (.ireturn, 1) := by decide +kernel
theorem dX7_readWithin_0 : decode cX7_readWithin 0 = .ok (.aload_n 0, 1) := by decide +kernel
theorem dX7_readWithin_1 : decode cX7_readWithin 1 = .ok (.aload_n 1, 1) := by decide +kernel
theorem dX7_readWithin_2 : decode cX7_readWithin 2 = .ok (.iload_n 2, 1) := by decide +kernel
theorem dX7_readWithin_3 : decode cX7_readWithin 3 = .ok (.invokevirtual 191, 3) := by decide +kernel
theorem dX7_readWithin_6 : decode cX7_readWithin 6 = .ok (.istore 4, 2) := by decide +kernel
theorem dX7_readWithin_8 : decode cX7_readWithin 8 = .ok (.iload 4, 2) := by decide +kernel
theorem dX7_readWithin_10 : decode cX7_readWithin 10 = .ok (.ifCond .eq 8, 3) := by decide +kernel
theorem dX7_readWithin_13 : decode cX7_readWithin 13 = .ok (.iload 4, 2) := by decide +kernel
theorem dX7_readWithin_15 : decode cX7_readWithin 15 = .ok (.goto 19, 3) := by decide +kernel
theorem dX7_readWithin_18 : decode cX7_readWithin 18 = .ok (.aload_n 0, 1) := by decide +kernel
theorem dX7_readWithin_19 : decode cX7_readWithin 19 = .ok (.getfield 22, 3) := by decide +kernel
theorem dX7_readWithin_22 : decode cX7_readWithin 22 = .ok (.getfield 51, 3) := by decide +kernel
theorem dX7_readWithin_25 : decode cX7_readWithin 25 = .ok (.iload_n 3, 1) := by decide +kernel
theorem dX7_readWithin_26 : decode cX7_readWithin 26 = .ok (.iconst 5, 1) := by decide +kernel
theorem dX7_readWithin_27 : decode cX7_readWithin 27 = .ok (.aload_n 0, 1) := by decide +kernel
theorem dX7_readWithin_28 : decode cX7_readWithin 28 = .ok (.getfield 18, 3) := by decide +kernel
theorem dX7_readWithin_31 : decode cX7_readWithin 31 = .ok (.invokestatic 86, 3) := by decide +kernel
theorem dX7_readWithin_34 : decode cX7_readWithin 34 = .ok (.ireturn, 1) := by decide +kernel
theorem dX7_writeWithin_0 : decode cX7_writeWithin 0 = .ok (.aload_n 0, 1) := by decide +kernel
theorem dX7_writeWithin_1 : decode cX7_writeWithin 1 = .ok (.aload_n 1, 1) := by decide +kernel
theorem dX7_writeWithin_2 : decode cX7_writeWithin 2 = .ok (.iload_n 2, 1) := by decide +kernel
theorem dX7_writeWithin_3 : decode cX7_writeWithin 3 = .ok (.invokevirtual 191, 3) := by decide +kernel
theorem dX7_writeWithin_6 : decode cX7_writeWithin 6 = .ok (.istore 5, 2) := by decide +kernel
theorem dX7_writeWithin_8 : decode cX7_writeWithin 8 = .ok (.iload 5, 2) := by decide +kernel
theorem dX7_writeWithin_10 : decode cX7_writeWithin 10 = .ok (.ifCond .eq 8, 3) := by decide +kernel
theorem dX7_writeWithin_13 : decode cX7_writeWithin 13 = .ok (.iload 5, 2) := by decide +kernel
theorem dX7_writeWithin_15 : decode cX7_writeWithin 15 = .ok (.goto 18, 3) := by decide +kernel
theorem dX7_writeWithin_18 : decode cX7_writeWithin 18 = .ok (.aload_n 0, 1) := by decide +kernel
theorem dX7_writeWithin_19 : decode cX7_writeWithin 19 = .ok (.getfield 22, 3) := by decide +kernel
theorem dX7_writeWithin_22 : decode cX7_writeWithin 22 = .ok (.getfield 51, 3) := by decide +kernel
theorem dX7_writeWithin_25 : decode cX7_writeWithin 25 = .ok (.iload_n 3, 1) := by decide +kernel
theorem dX7_writeWithin_26 : decode cX7_writeWithin 26 = .ok (.iconst 4, 1) := by decide +kernel
theorem dX7_writeWithin_27 : decode cX7_writeWithin 27 = .ok (.iload 4, 2) := by decide +kernel
theorem dX7_writeWithin_29 : decode cX7_writeWithin 29 = .ok (.i2l, 1) := by decide +kernel
theorem dX7_writeWithin_30 : decode cX7_writeWithin 30 = .ok (.invokestatic 94, 3) := by decide +kernel
theorem dX7_writeWithin_33 : decode cX7_writeWithin 33 = .ok (.ireturn, 1) := by decide +kernel
theorem dX7_takeInner_0 : decode cX7_takeInner 0 = .ok (.aload_n 1, 1) := by decide +kernel
theorem dX7_takeInner_1 : decode cX7_takeInner 1 = .ok (.iload_n 2, 1) := by decide +kernel
theorem dX7_takeInner_2 : decode cX7_takeInner 2 = .ok (.aload_n 0, 1) := by decide +kernel
theorem dX7_takeInner_3 : decode cX7_takeInner 3 = .ok (.getfield 22, 3) := by decide +kernel
theorem dX7_takeInner_6 : decode cX7_takeInner 6 = .ok (.invokestatic 72, 3) := by decide +kernel
theorem dX7_takeInner_9 : decode cX7_takeInner 9 = .ok (.istore_n 3, 1) := by decide +kernel
theorem dX7_takeInner_10 : decode cX7_takeInner 10 = .ok (.iload_n 3, 1) := by decide +kernel
theorem dX7_takeInner_11 : decode cX7_takeInner 11 = .ok (.ifCond .eq 5, 3) := by decide +kernel
theorem dX7_takeInner_14 : decode cX7_takeInner 14 = .ok (.iload_n 3, 1) := by decide +kernel
theorem dX7_takeInner_15 : decode cX7_takeInner 15 = .ok (.ireturn, 1) := by decide +kernel
theorem dX7_takeInner_16 : decode cX7_takeInner 16 = .ok (.aload_n 0, 1) := by decide +kernel
theorem dX7_takeInner_17 : decode cX7_takeInner 17 = .ok (.getfield 22, 3) := by decide +kernel
theorem dX7_takeInner_20 : decode cX7_takeInner 20 = .ok (.getfield 76, 3) := by decide +kernel
theorem dX7_takeInner_23 : decode cX7_takeInner 23 = .ok (.invokestatic 40, 3) := by decide +kernel
theorem dX7_takeInner_26 : decode cX7_takeInner 26 = .ok (.ifCond .eq 7, 3) := by decide +kernel
theorem dX7_takeInner_29 : decode cX7_takeInner 29 = .ok (.iconst 2, 1) := by decide +kernel
theorem dX7_takeInner_30 : decode cX7_takeInner 30 = .ok (.goto 4, 3) := by decide +kernel
theorem dX7_takeInner_33 : decode cX7_takeInner 33 = .ok (.iconst 0, 1) := by decide +kernel
theorem dX7_takeInner_34 : decode cX7_takeInner 34 = .ok (.ireturn, 1) := by decide +kernel
theorem dX7_passPlace_0 : decode cX7_passPlace 0 = .ok (.aload_n 1, 1) := by decide +kernel
theorem dX7_passPlace_1 : decode cX7_passPlace 1 = .ok (.iload_n 3, 1) := by decide +kernel
theorem dX7_passPlace_2 : decode cX7_passPlace 2 = .ok (.iload 4, 2) := by decide +kernel
theorem dX7_passPlace_4 : decode cX7_passPlace 4 = .ok (.aload_n 0, 1) := by decide +kernel
theorem dX7_passPlace_5 : decode cX7_passPlace 5 = .ok (.getfield 22, 3) := by decide +kernel
theorem dX7_passPlace_8 : decode cX7_passPlace 8 = .ok (.invokestatic 86, 3) := by decide +kernel
theorem dX7_passPlace_11 : decode cX7_passPlace 11 = .ok (.istore 5, 2) := by decide +kernel
theorem dX7_passPlace_13 : decode cX7_passPlace 13 = .ok (.iload 5, 2) := by decide +kernel
theorem dX7_passPlace_15 : decode cX7_passPlace 15 = .ok (.ifCond .eq 8, 3) := by decide +kernel
theorem dX7_passPlace_18 : decode cX7_passPlace 18 = .ok (.iload 5, 2) := by decide +kernel
theorem dX7_passPlace_20 : decode cX7_passPlace 20 = .ok (.goto 17, 3) := by decide +kernel
theorem dX7_passPlace_23 : decode cX7_passPlace 23 = .ok (.aload_n 2, 1) := by decide +kernel
theorem dX7_passPlace_24 : decode cX7_passPlace 24 = .ok (.iload_n 3, 1) := by decide +kernel
theorem dX7_passPlace_25 : decode cX7_passPlace 25 = .ok (.iload 4, 2) := by decide +kernel
theorem dX7_passPlace_27 : decode cX7_passPlace 27 = .ok (.aload_n 0, 1) := by decide +kernel
theorem dX7_passPlace_28 : decode cX7_passPlace 28 = .ok (.getfield 22, 3) := by decide +kernel
theorem dX7_passPlace_31 : decode cX7_passPlace 31 = .ok (.getfield 90, 3) := by decide +kernel
theorem dX7_passPlace_34 : decode cX7_passPlace 34 = .ok (.invokestatic 94, 3) := by decide +kernel
theorem dX7_passPlace_37 : decode cX7_passPlace 37 = .ok (.ireturn, 1) := by decide +kernel
theorem dX7_movePlace_0 : decode cX7_movePlace 0 = .ok (.aload_n 1, 1) := by decide +kernel
theorem dX7_movePlace_1 : decode cX7_movePlace 1 = .ok (.iload_n 2, 1) := by decide +kernel
theorem dX7_movePlace_2 : decode cX7_movePlace 2 = .ok (.aload_n 0, 1) := by decide +kernel
theorem dX7_movePlace_3 : decode cX7_movePlace 3 = .ok (.getfield 22, 3) := by decide +kernel
theorem dX7_movePlace_6 : decode cX7_movePlace 6 = .ok (.invokestatic 72, 3) := by decide +kernel
theorem dX7_movePlace_9 : decode cX7_movePlace 9 = .ok (.istore 5, 2) := by decide +kernel
theorem dX7_movePlace_11 : decode cX7_movePlace 11 = .ok (.iload 5, 2) := by decide +kernel
theorem dX7_movePlace_13 : decode cX7_movePlace 13 = .ok (.ifCond .eq 8, 3) := by decide +kernel
theorem dX7_movePlace_16 : decode cX7_movePlace 16 = .ok (.iload 5, 2) := by decide +kernel
theorem dX7_movePlace_18 : decode cX7_movePlace 18 = .ok (.goto 13, 3) := by decide +kernel
theorem dX7_movePlace_21 : decode cX7_movePlace 21 = .ok (.aload_n 3, 1) := by decide +kernel
theorem dX7_movePlace_22 : decode cX7_movePlace 22 = .ok (.iload 4, 2) := by decide +kernel
theorem dX7_movePlace_24 : decode cX7_movePlace 24 = .ok (.aload_n 0, 1) := by decide +kernel
theorem dX7_movePlace_25 : decode cX7_movePlace 25 = .ok (.getfield 22, 3) := by decide +kernel
theorem dX7_movePlace_28 : decode cX7_movePlace 28 = .ok (.invokestatic 83, 3) := by decide +kernel
theorem dX7_movePlace_31 : decode cX7_movePlace 31 = .ok (.ireturn, 1) := by decide +kernel
theorem dX7_kindsTaken_0 : decode cX7_kindsTaken 0 = .ok (.iconst 0, 1) := by decide +kernel
theorem dX7_kindsTaken_1 : decode cX7_kindsTaken 1 = .ok (.istore_n 1, 1) := by decide +kernel
theorem dX7_kindsTaken_2 : decode cX7_kindsTaken 2 = .ok (.aload_n 0, 1) := by decide +kernel
theorem dX7_kindsTaken_3 : decode cX7_kindsTaken 3 = .ok (.instanceof 43, 3) := by decide +kernel
theorem dX7_kindsTaken_6 : decode cX7_kindsTaken 6 = .ok (.ifCond .eq 39, 3) := by decide +kernel
theorem dX7_kindsTaken_9 : decode cX7_kindsTaken 9 = .ok (.aload_n 0, 1) := by decide +kernel
theorem dX7_kindsTaken_10 : decode cX7_kindsTaken 10 = .ok (.checkcast 43, 3) := by decide +kernel
theorem dX7_kindsTaken_13 : decode cX7_kindsTaken 13 = .ok (.astore_n 2, 1) := by decide +kernel
theorem dX7_kindsTaken_14 : decode cX7_kindsTaken 14 = .ok (.iconst 0, 1) := by decide +kernel
theorem dX7_kindsTaken_15 : decode cX7_kindsTaken 15 = .ok (.istore_n 3, 1) := by decide +kernel
theorem dX7_kindsTaken_16 : decode cX7_kindsTaken 16 = .ok (.iload_n 3, 1) := by decide +kernel
theorem dX7_kindsTaken_17 : decode cX7_kindsTaken 17 = .ok (.bipush 8, 2) := by decide +kernel
theorem dX7_kindsTaken_19 : decode cX7_kindsTaken 19 = .ok (.if_icmp .ge 26, 3) := by decide +kernel
theorem dX7_kindsTaken_22 : decode cX7_kindsTaken 22 = .ok (.iload_n 3, 1) := by decide +kernel
theorem dX7_kindsTaken_23 : decode cX7_kindsTaken 23 = .ok (.aload_n 2, 1) := by decide +kernel
theorem dX7_kindsTaken_24 : decode cX7_kindsTaken 24 = .ok (.getfield 164, 3) := by decide +kernel
theorem dX7_kindsTaken_27 : decode cX7_kindsTaken 27 = .ok (.invokestatic 182, 3) := by decide +kernel
theorem dX7_kindsTaken_30 : decode cX7_kindsTaken 30 = .ok (.ifCond .eq 9, 3) := by decide +kernel
theorem dX7_kindsTaken_33 : decode cX7_kindsTaken 33 = .ok (.iload_n 1, 1) := by decide +kernel
theorem dX7_kindsTaken_34 : decode cX7_kindsTaken 34 = .ok (.iconst 1, 1) := by decide +kernel
theorem dX7_kindsTaken_35 : decode cX7_kindsTaken 35 = .ok (.iload_n 3, 1) := by decide +kernel
theorem dX7_kindsTaken_36 : decode cX7_kindsTaken 36 = .ok (.ishl, 1) := by decide +kernel
theorem dX7_kindsTaken_37 : decode cX7_kindsTaken 37 = .ok (.ior, 1) := by decide +kernel
theorem dX7_kindsTaken_38 : decode cX7_kindsTaken 38 = .ok (.istore_n 1, 1) := by decide +kernel
theorem dX7_kindsTaken_39 : decode cX7_kindsTaken 39 = .ok (.iinc 3 1, 3) := by decide +kernel
theorem dX7_kindsTaken_42 : decode cX7_kindsTaken 42 = .ok (.goto (-26), 3) := by decide +kernel
theorem dX7_kindsTaken_45 : decode cX7_kindsTaken 45 = .ok (.iload_n 1, 1) := by decide +kernel
theorem dX7_kindsTaken_46 : decode cX7_kindsTaken 46 = .ok (.ireturn, 1) := by decide +kernel
theorem dX7_kindsGiven_0 : decode cX7_kindsGiven 0 = .ok (.iconst 0, 1) := by decide +kernel
theorem dX7_kindsGiven_1 : decode cX7_kindsGiven 1 = .ok (.istore_n 1, 1) := by decide +kernel
theorem dX7_kindsGiven_2 : decode cX7_kindsGiven 2 = .ok (.aload_n 0, 1) := by decide +kernel
theorem dX7_kindsGiven_3 : decode cX7_kindsGiven 3 = .ok (.instanceof 43, 3) := by decide +kernel
theorem dX7_kindsGiven_6 : decode cX7_kindsGiven 6 = .ok (.ifCond .eq 39, 3) := by decide +kernel
theorem dX7_kindsGiven_9 : decode cX7_kindsGiven 9 = .ok (.aload_n 0, 1) := by decide +kernel
theorem dX7_kindsGiven_10 : decode cX7_kindsGiven 10 = .ok (.checkcast 43, 3) := by decide +kernel
theorem dX7_kindsGiven_13 : decode cX7_kindsGiven 13 = .ok (.astore_n 2, 1) := by decide +kernel
theorem dX7_kindsGiven_14 : decode cX7_kindsGiven 14 = .ok (.iconst 0, 1) := by decide +kernel
theorem dX7_kindsGiven_15 : decode cX7_kindsGiven 15 = .ok (.istore_n 3, 1) := by decide +kernel
theorem dX7_kindsGiven_16 : decode cX7_kindsGiven 16 = .ok (.iload_n 3, 1) := by decide +kernel
theorem dX7_kindsGiven_17 : decode cX7_kindsGiven 17 = .ok (.bipush 8, 2) := by decide +kernel
theorem dX7_kindsGiven_19 : decode cX7_kindsGiven 19 = .ok (.if_icmp .ge 26, 3) := by decide +kernel
theorem dX7_kindsGiven_22 : decode cX7_kindsGiven 22 = .ok (.aload_n 2, 1) := by decide +kernel
theorem dX7_kindsGiven_23 : decode cX7_kindsGiven 23 = .ok (.getfield 164, 3) := by decide +kernel
theorem dX7_kindsGiven_26 : decode cX7_kindsGiven 26 = .ok (.iload_n 3, 1) := by decide +kernel
theorem dX7_kindsGiven_27 : decode cX7_kindsGiven 27 = .ok (.invokestatic 182, 3) := by decide +kernel
theorem dX7_kindsGiven_30 : decode cX7_kindsGiven 30 = .ok (.ifCond .eq 9, 3) := by decide +kernel
theorem dX7_kindsGiven_33 : decode cX7_kindsGiven 33 = .ok (.iload_n 1, 1) := by decide +kernel
theorem dX7_kindsGiven_34 : decode cX7_kindsGiven 34 = .ok (.iconst 1, 1) := by decide +kernel
theorem dX7_kindsGiven_35 : decode cX7_kindsGiven 35 = .ok (.iload_n 3, 1) := by decide +kernel
theorem dX7_kindsGiven_36 : decode cX7_kindsGiven 36 = .ok (.ishl, 1) := by decide +kernel
theorem dX7_kindsGiven_37 : decode cX7_kindsGiven 37 = .ok (.ior, 1) := by decide +kernel
theorem dX7_kindsGiven_38 : decode cX7_kindsGiven 38 = .ok (.istore_n 1, 1) := by decide +kernel
theorem dX7_kindsGiven_39 : decode cX7_kindsGiven 39 = .ok (.iinc 3 1, 3) := by decide +kernel
theorem dX7_kindsGiven_42 : decode cX7_kindsGiven 42 = .ok (.goto (-26), 3) := by decide +kernel
theorem dX7_kindsGiven_45 : decode cX7_kindsGiven 45 = .ok (.iload_n 1, 1) := by decide +kernel
theorem dX7_kindsGiven_46 : decode cX7_kindsGiven 46 = .ok (.ireturn, 1) := by decide +kernel
theorem dX7_forgetRun_0 : decode cX7_forgetRun 0 = .ok (.iconst 0, 1) := by decide +kernel
theorem dX7_forgetRun_1 : decode cX7_forgetRun 1 = .ok (.istore_n 1, 1) := by decide +kernel
theorem dX7_forgetRun_2 : decode cX7_forgetRun 2 = .ok (.iload_n 1, 1) := by decide +kernel
theorem dX7_forgetRun_3 : decode cX7_forgetRun 3 = .ok (.aload_n 0, 1) := by decide +kernel
theorem dX7_forgetRun_4 : decode cX7_forgetRun 4 = .ok (.getfield 131, 3) := by decide +kernel
end
section
theorem dX7_forgetRun_7 : decode cX7_forgetRun 7 = .ok (.if_icmp .ge 20, 3) := by decide +kernel
theorem dX7_forgetRun_10 : decode cX7_forgetRun 10 = .ok (.aload_n 0, 1) := by decide +kernel
theorem dX7_forgetRun_11 : decode cX7_forgetRun 11 = .ok (.getfield 27, 3) := by decide +kernel
theorem dX7_forgetRun_14 : decode cX7_forgetRun 14 = .ok (.iload_n 1, 1) := by decide +kernel
theorem dX7_forgetRun_15 : decode cX7_forgetRun 15 = .ok (.aaload, 1) := by decide +kernel
theorem dX7_forgetRun_16 : decode cX7_forgetRun 16 = .ok (.bipush (-9), 2) := by decide +kernel
theorem dX7_forgetRun_18 : decode cX7_forgetRun 18 = .ok (.putfield 145, 3) := by decide +kernel
theorem dX7_forgetRun_21 : decode cX7_forgetRun 21 = .ok (.iinc 1 1, 3) := by decide +kernel
theorem dX7_forgetRun_24 : decode cX7_forgetRun 24 = .ok (.goto (-22), 3) := by decide +kernel
theorem dX7_forgetRun_27 : decode cX7_forgetRun 27 = .ok (.return_, 1) := by decide +kernel
theorem dX7_doStep_0 : decode cX7_doStep 0 = .ok (.aload_n 0, 1) := by decide +kernel
theorem dX7_doStep_1 : decode cX7_doStep 1 = .ok (.getfield 11, 3) := by decide +kernel
theorem dX7_doStep_4 : decode cX7_doStep 4 = .ok (.aload_n 1, 1) := by decide +kernel
theorem dX7_doStep_5 : decode cX7_doStep 5 = .ok (.getfield 194, 3) := by decide +kernel
theorem dX7_doStep_8 : decode cX7_doStep 8 = .ok (.aaload, 1) := by decide +kernel
theorem dX7_doStep_9 : decode cX7_doStep 9 = .ok (.astore_n 2, 1) := by decide +kernel
theorem dX7_doStep_10 : decode cX7_doStep 10 = .ok (.aload_n 1, 1) := by decide +kernel
theorem dX7_doStep_11 : decode cX7_doStep 11 = .ok (.getfield 197, 3) := by decide +kernel
theorem dX7_doStep_14 : decode cX7_doStep 14 = .ok (.tableswitch 126 0 4 #[34, 47, 60, 77, 112], 34) := by decide +kernel
theorem dX7_doStep_48 : decode cX7_doStep 48 = .ok (.aload_n 2, 1) := by decide +kernel
theorem dX7_doStep_49 : decode cX7_doStep 49 = .ok (.aload_n 1, 1) := by decide +kernel
theorem dX7_doStep_50 : decode cX7_doStep 50 = .ok (.getfield 200, 3) := by decide +kernel
theorem dX7_doStep_53 : decode cX7_doStep 53 = .ok (.aload_n 0, 1) := by decide +kernel
theorem dX7_doStep_54 : decode cX7_doStep 54 = .ok (.getfield 18, 3) := by decide +kernel
theorem dX7_doStep_57 : decode cX7_doStep 57 = .ok (.invokestatic 72, 3) := by decide +kernel
theorem dX7_doStep_60 : decode cX7_doStep 60 = .ok (.ireturn, 1) := by decide +kernel
theorem dX7_doStep_61 : decode cX7_doStep 61 = .ok (.aload_n 2, 1) := by decide +kernel
theorem dX7_doStep_62 : decode cX7_doStep 62 = .ok (.aload_n 1, 1) := by decide +kernel
theorem dX7_doStep_63 : decode cX7_doStep 63 = .ok (.getfield 200, 3) := by decide +kernel
theorem dX7_doStep_66 : decode cX7_doStep 66 = .ok (.aload_n 0, 1) := by decide +kernel
theorem dX7_doStep_67 : decode cX7_doStep 67 = .ok (.getfield 18, 3) := by decide +kernel
theorem dX7_doStep_70 : decode cX7_doStep 70 = .ok (.invokestatic 83, 3) := by decide +kernel
theorem dX7_doStep_73 : decode cX7_doStep 73 = .ok (.ireturn, 1) := by decide +kernel
theorem dX7_doStep_74 : decode cX7_doStep 74 = .ok (.aload_n 2, 1) := by decide +kernel
theorem dX7_doStep_75 : decode cX7_doStep 75 = .ok (.aload_n 1, 1) := by decide +kernel
theorem dX7_doStep_76 : decode cX7_doStep 76 = .ok (.getfield 200, 3) := by decide +kernel
theorem dX7_doStep_79 : decode cX7_doStep 79 = .ok (.aload_n 1, 1) := by decide +kernel
theorem dX7_doStep_80 : decode cX7_doStep 80 = .ok (.getfield 203, 3) := by decide +kernel
theorem dX7_doStep_83 : decode cX7_doStep 83 = .ok (.aload_n 0, 1) := by decide +kernel
theorem dX7_doStep_84 : decode cX7_doStep 84 = .ok (.getfield 18, 3) := by decide +kernel
theorem dX7_doStep_87 : decode cX7_doStep 87 = .ok (.invokestatic 86, 3) := by decide +kernel
theorem dX7_doStep_90 : decode cX7_doStep 90 = .ok (.ireturn, 1) := by decide +kernel
theorem dX7_doStep_91 : decode cX7_doStep 91 = .ok (.aload_n 0, 1) := by decide +kernel
theorem dX7_doStep_92 : decode cX7_doStep 92 = .ok (.getfield 18, 3) := by decide +kernel
theorem dX7_doStep_95 : decode cX7_doStep 95 = .ok (.getfield 76, 3) := by decide +kernel
theorem dX7_doStep_98 : decode cX7_doStep 98 = .ok (.invokestatic 40, 3) := by decide +kernel
theorem dX7_doStep_101 : decode cX7_doStep 101 = .ok (.ifCond .ne 5, 3) := by decide +kernel
theorem dX7_doStep_104 : decode cX7_doStep 104 = .ok (.iconst 0, 1) := by decide +kernel
theorem dX7_doStep_105 : decode cX7_doStep 105 = .ok (.ireturn, 1) := by decide +kernel
theorem dX7_doStep_106 : decode cX7_doStep 106 = .ok (.aload_n 2, 1) := by decide +kernel
theorem dX7_doStep_107 : decode cX7_doStep 107 = .ok (.aload_n 1, 1) := by decide +kernel
theorem dX7_doStep_108 : decode cX7_doStep 108 = .ok (.getfield 200, 3) := by decide +kernel
theorem dX7_doStep_111 : decode cX7_doStep 111 = .ok (.aload_n 1, 1) := by decide +kernel
theorem dX7_doStep_112 : decode cX7_doStep 112 = .ok (.getfield 203, 3) := by decide +kernel
theorem dX7_doStep_115 : decode cX7_doStep 115 = .ok (.aload_n 0, 1) := by decide +kernel
theorem dX7_doStep_116 : decode cX7_doStep 116 = .ok (.getfield 18, 3) := by decide +kernel
theorem dX7_doStep_119 : decode cX7_doStep 119 = .ok (.getfield 90, 3) := by decide +kernel
theorem dX7_doStep_122 : decode cX7_doStep 122 = .ok (.invokestatic 94, 3) := by decide +kernel
theorem dX7_doStep_125 : decode cX7_doStep 125 = .ok (.ireturn, 1) := by decide +kernel
theorem dX7_doStep_126 : decode cX7_doStep 126 = .ok (.aload_n 0, 1) := by decide +kernel
theorem dX7_doStep_127 : decode cX7_doStep 127 = .ok (.aload_n 2, 1) := by decide +kernel
theorem dX7_doStep_128 : decode cX7_doStep 128 = .ok (.aload_n 1, 1) := by decide +kernel
theorem dX7_doStep_129 : decode cX7_doStep 129 = .ok (.getfield 200, 3) := by decide +kernel
theorem dX7_doStep_132 : decode cX7_doStep 132 = .ok (.aload_n 1, 1) := by decide +kernel
theorem dX7_doStep_133 : decode cX7_doStep 133 = .ok (.getfield 203, 3) := by decide +kernel
theorem dX7_doStep_136 : decode cX7_doStep 136 = .ok (.invokevirtual 105, 3) := by decide +kernel
theorem dX7_doStep_139 : decode cX7_doStep 139 = .ok (.ireturn, 1) := by decide +kernel
theorem dX7_doStep_140 : decode cX7_doStep 140 = .ok (.aload_n 0, 1) := by decide +kernel
theorem dX7_doStep_141 : decode cX7_doStep 141 = .ok (.aload_n 2, 1) := by decide +kernel
theorem dX7_doStep_142 : decode cX7_doStep 142 = .ok (.aload_n 1, 1) := by decide +kernel
theorem dX7_doStep_143 : decode cX7_doStep 143 = .ok (.getfield 200, 3) := by decide +kernel
theorem dX7_doStep_146 : decode cX7_doStep 146 = .ok (.aload_n 0, 1) := by decide +kernel
theorem dX7_doStep_147 : decode cX7_doStep 147 = .ok (.getfield 11, 3) := by decide +kernel
theorem dX7_doStep_150 : decode cX7_doStep 150 = .ok (.aload_n 1, 1) := by decide +kernel
theorem dX7_doStep_151 : decode cX7_doStep 151 = .ok (.getfield 206, 3) := by decide +kernel
theorem dX7_doStep_154 : decode cX7_doStep 154 = .ok (.aaload, 1) := by decide +kernel
theorem dX7_doStep_155 : decode cX7_doStep 155 = .ok (.aload_n 1, 1) := by decide +kernel
theorem dX7_doStep_156 : decode cX7_doStep 156 = .ok (.getfield 203, 3) := by decide +kernel
theorem dX7_doStep_159 : decode cX7_doStep 159 = .ok (.invokevirtual 209, 3) := by decide +kernel
theorem dX7_doStep_162 : decode cX7_doStep 162 = .ok (.ireturn, 1) := by decide +kernel
theorem dX8_init_0 : decode cX8_init 0 = .ok (.aload_n 0, 1) := by decide +kernel
theorem dX8_init_1 : decode cX8_init 1 = .ok (.invokespecial 1, 3) := by decide +kernel
theorem dX8_init_4 : decode cX8_init 4 = .ok (.aload_n 0, 1) := by decide +kernel
theorem dX8_init_5 : decode cX8_init 5 = .ok (.bipush 10, 2) := by decide +kernel
theorem dX8_init_7 : decode cX8_init 7 = .ok (.newarray .int, 2) := by decide +kernel
theorem dX8_init_9 : decode cX8_init 9 = .ok (.putfield 7, 3) := by decide +kernel
theorem dX8_init_12 : decode cX8_init 12 = .ok (.aload_n 0, 1) := by decide +kernel
theorem dX8_init_13 : decode cX8_init 13 = .ok (.bipush 10, 2) := by decide +kernel
theorem dX8_init_15 : decode cX8_init 15 = .ok (.newarray .int, 2) := by decide +kernel
theorem dX8_init_17 : decode cX8_init 17 = .ok (.putfield 13, 3) := by decide +kernel
theorem dX8_init_20 : decode cX8_init 20 = .ok (.aload_n 0, 1) := by decide +kernel
theorem dX8_init_21 : decode cX8_init 21 = .ok (.bipush 41, 2) := by decide +kernel
theorem dX8_init_23 : decode cX8_init 23 = .ok (.newarray .boolean, 2) := by decide +kernel
theorem dX8_init_25 : decode cX8_init 25 = .ok (.putfield 16, 3) := by decide +kernel
theorem dX8_init_28 : decode cX8_init 28 = .ok (.aload_n 0, 1) := by decide +kernel
theorem dX8_init_29 : decode cX8_init 29 = .ok (.sipush 5000, 3) := by decide +kernel
theorem dX8_init_32 : decode cX8_init 32 = .ok (.newarray .int, 2) := by decide +kernel
theorem dX8_init_34 : decode cX8_init 34 = .ok (.putfield 20, 3) := by decide +kernel
theorem dX8_init_37 : decode cX8_init 37 = .ok (.aload_n 0, 1) := by decide +kernel
theorem dX8_init_38 : decode cX8_init 38 = .ok (.sipush 5000, 3) := by decide +kernel
theorem dX8_init_41 : decode cX8_init 41 = .ok (.newarray .int, 2) := by decide +kernel
theorem dX8_init_43 : decode cX8_init 43 = .ok (.putfield 23, 3) := by decide +kernel
theorem dX8_init_46 : decode cX8_init 46 = .ok (.aload_n 0, 1) := by decide +kernel
theorem dX8_init_47 : decode cX8_init 47 = .ok (.ldc 26, 2) := by decide +kernel
theorem dX8_init_49 : decode cX8_init 49 = .ok (.newarray .long, 2) := by decide +kernel
theorem dX8_init_51 : decode cX8_init 51 = .ok (.putfield 27, 3) := by decide +kernel
theorem dX8_init_54 : decode cX8_init 54 = .ok (.aload_n 0, 1) := by decide +kernel
theorem dX8_init_55 : decode cX8_init 55 = .ok (.bipush 60, 2) := by decide +kernel
theorem dX8_init_57 : decode cX8_init 57 = .ok (.newarray .int, 2) := by decide +kernel
theorem dX8_init_59 : decode cX8_init 59 = .ok (.putfield 31, 3) := by decide +kernel
theorem dX8_init_62 : decode cX8_init 62 = .ok (.aload_n 0, 1) := by decide +kernel
theorem dX8_init_63 : decode cX8_init 63 = .ok (.bipush 12, 2) := by decide +kernel
theorem dX8_init_65 : decode cX8_init 65 = .ok (.newarray .int, 2) := by decide +kernel
theorem dX8_init_67 : decode cX8_init 67 = .ok (.putfield 34, 3) := by decide +kernel
theorem dX8_init_70 : decode cX8_init 70 = .ok (.aload_n 0, 1) := by decide +kernel
theorem dX8_init_71 : decode cX8_init 71 = .ok (.iconst 4, 1) := by decide +kernel
theorem dX8_init_72 : decode cX8_init 72 = .ok (.newarray .int, 2) := by decide +kernel
theorem dX8_init_74 : decode cX8_init 74 = .ok (.putfield 37, 3) := by decide +kernel
theorem dX8_init_77 : decode cX8_init 77 = .ok (.return_, 1) := by decide +kernel
theorem dX8_beyond_0 : decode cX8_beyond 0 = .ok (.lload_n 0, 1) := by decide +kernel
theorem dX8_beyond_1 : decode cX8_beyond 1 = .ok (.lload_n 2, 1) := by decide +kernel
theorem dX8_beyond_2 : decode cX8_beyond 2 = .ok (.lcmp, 1) := by decide +kernel
theorem dX8_beyond_3 : decode cX8_beyond 3 = .ok (.ifCond .lt 10, 3) := by decide +kernel
theorem dX8_beyond_6 : decode cX8_beyond 6 = .ok (.lload_n 0, 1) := by decide +kernel
theorem dX8_beyond_7 : decode cX8_beyond 7 = .ok (.lload 4, 2) := by decide +kernel
theorem dX8_beyond_9 : decode cX8_beyond 9 = .ok (.lcmp, 1) := by decide +kernel
theorem dX8_beyond_10 : decode cX8_beyond 10 = .ok (.ifCond .le 7, 3) := by decide +kernel
theorem dX8_beyond_13 : decode cX8_beyond 13 = .ok (.iconst 1, 1) := by decide +kernel
theorem dX8_beyond_14 : decode cX8_beyond 14 = .ok (.goto 4, 3) := by decide +kernel
theorem dX8_beyond_17 : decode cX8_beyond 17 = .ok (.iconst 0, 1) := by decide +kernel
theorem dX8_beyond_18 : decode cX8_beyond 18 = .ok (.ireturn, 1) := by decide +kernel
theorem dX8_no_0 : decode cX8_no 0 = .ok (.iload_n 0, 1) := by decide +kernel
theorem dX8_no_1 : decode cX8_no 1 = .ok (.i2l, 1) := by decide +kernel
theorem dX8_no_2 : decode cX8_no 2 = .ok (.lconst 0, 1) := by decide +kernel
theorem dX8_no_3 : decode cX8_no 3 = .ok (.ldc2_w 40, 3) := by decide +kernel
theorem dX8_no_6 : decode cX8_no 6 = .ok (.invokestatic 42, 3) := by decide +kernel
theorem dX8_no_9 : decode cX8_no 9 = .ok (.ireturn, 1) := by decide +kernel
theorem dX8_goes_0 : decode cX8_goes 0 = .ok (.iload_n 0, 1) := by decide +kernel
theorem dX8_goes_1 : decode cX8_goes 1 = .ok (.iload_n 1, 1) := by decide +kernel
theorem dX8_goes_2 : decode cX8_goes 2 = .ok (.if_icmp .ne 5, 3) := by decide +kernel
theorem dX8_goes_5 : decode cX8_goes 5 = .ok (.iconst 1, 1) := by decide +kernel
theorem dX8_goes_6 : decode cX8_goes 6 = .ok (.ireturn, 1) := by decide +kernel
theorem dX8_goes_7 : decode cX8_goes 7 = .ok (.iload_n 0, 1) := by decide +kernel
theorem dX8_goes_8 : decode cX8_goes 8 = .ok (.ifCond .le 33, 3) := by decide +kernel
theorem dX8_goes_11 : decode cX8_goes 11 = .ok (.iload_n 0, 1) := by decide +kernel
theorem dX8_goes_12 : decode cX8_goes 12 = .ok (.iload_n 1, 1) := by decide +kernel
theorem dX8_goes_13 : decode cX8_goes 13 = .ok (.if_icmp .ge 28, 3) := by decide +kernel
theorem dX8_goes_16 : decode cX8_goes 16 = .ok (.iload_n 1, 1) := by decide +kernel
theorem dX8_goes_17 : decode cX8_goes 17 = .ok (.bipush 8, 2) := by decide +kernel
theorem dX8_goes_19 : decode cX8_goes 19 = .ok (.if_icmp .ge 22, 3) := by decide +kernel
theorem dX8_goes_22 : decode cX8_goes 22 = .ok (.iload_n 1, 1) := by decide +kernel
theorem dX8_goes_23 : decode cX8_goes 23 = .ok (.iconst 3, 1) := by decide +kernel
theorem dX8_goes_24 : decode cX8_goes 24 = .ok (.if_icmp .gt 13, 3) := by decide +kernel
theorem dX8_goes_27 : decode cX8_goes 27 = .ok (.iload_n 1, 1) := by decide +kernel
theorem dX8_goes_28 : decode cX8_goes 28 = .ok (.iconst 3, 1) := by decide +kernel
theorem dX8_goes_29 : decode cX8_goes 29 = .ok (.if_icmp .ne 12, 3) := by decide +kernel
theorem dX8_goes_32 : decode cX8_goes 32 = .ok (.iload_n 0, 1) := by decide +kernel
theorem dX8_goes_33 : decode cX8_goes 33 = .ok (.iconst 1, 1) := by decide +kernel
theorem dX8_goes_34 : decode cX8_goes 34 = .ok (.if_icmp .ne 7, 3) := by decide +kernel
theorem dX8_goes_37 : decode cX8_goes 37 = .ok (.iconst 1, 1) := by decide +kernel
theorem dX8_goes_38 : decode cX8_goes 38 = .ok (.goto 4, 3) := by decide +kernel
theorem dX8_goes_41 : decode cX8_goes 41 = .ok (.iconst 0, 1) := by decide +kernel
theorem dX8_goes_42 : decode cX8_goes 42 = .ok (.ireturn, 1) := by decide +kernel
theorem dX8_as_0 : decode cX8_as 0 = .ok (.iload_n 0, 1) := by decide +kernel
theorem dX8_as_1 : decode cX8_as 1 = .ok (.tableswitch 80 0 6 #[43, 55, 60, 65, 70, 74, 76], 43) := by decide +kernel
theorem dX8_as_44 : decode cX8_as 44 = .ok (.lload_n 1, 1) := by decide +kernel
theorem dX8_as_45 : decode cX8_as 45 = .ok (.lconst 0, 1) := by decide +kernel
theorem dX8_as_46 : decode cX8_as 46 = .ok (.lcmp, 1) := by decide +kernel
theorem dX8_as_47 : decode cX8_as 47 = .ok (.ifCond .eq 7, 3) := by decide +kernel
theorem dX8_as_50 : decode cX8_as 50 = .ok (.lconst 1, 1) := by decide +kernel
theorem dX8_as_51 : decode cX8_as 51 = .ok (.goto 4, 3) := by decide +kernel
theorem dX8_as_54 : decode cX8_as 54 = .ok (.lconst 0, 1) := by decide +kernel
theorem dX8_as_55 : decode cX8_as 55 = .ok (.lreturn, 1) := by decide +kernel
theorem dX8_as_56 : decode cX8_as 56 = .ok (.lload_n 1, 1) := by decide +kernel
theorem dX8_as_57 : decode cX8_as 57 = .ok (.l2i, 1) := by decide +kernel
theorem dX8_as_58 : decode cX8_as 58 = .ok (.i2b, 1) := by decide +kernel
theorem dX8_as_59 : decode cX8_as 59 = .ok (.i2l, 1) := by decide +kernel
theorem dX8_as_60 : decode cX8_as 60 = .ok (.lreturn, 1) := by decide +kernel
theorem dX8_as_61 : decode cX8_as 61 = .ok (.lload_n 1, 1) := by decide +kernel
theorem dX8_as_62 : decode cX8_as 62 = .ok (.l2i, 1) := by decide +kernel
theorem dX8_as_63 : decode cX8_as 63 = .ok (.i2c, 1) := by decide +kernel
theorem dX8_as_64 : decode cX8_as 64 = .ok (.i2l, 1) := by decide +kernel
theorem dX8_as_65 : decode cX8_as 65 = .ok (.lreturn, 1) := by decide +kernel
theorem dX8_as_66 : decode cX8_as 66 = .ok (.lload_n 1, 1) := by decide +kernel
theorem dX8_as_67 : decode cX8_as 67 = .ok (.l2i, 1) := by decide +kernel
theorem dX8_as_68 : decode cX8_as 68 = .ok (.i2s, 1) := by decide +kernel
theorem dX8_as_69 : decode cX8_as 69 = .ok (.i2l, 1) := by decide +kernel
theorem dX8_as_70 : decode cX8_as 70 = .ok (.lreturn, 1) := by decide +kernel
theorem dX8_as_71 : decode cX8_as 71 = .ok (.lload_n 1, 1) := by decide +kernel
theorem dX8_as_72 : decode cX8_as 72 = .ok (.l2i, 1) := by decide +kernel
theorem dX8_as_73 : decode cX8_as 73 = .ok (.i2l, 1) := by decide +kernel
theorem dX8_as_74 : decode cX8_as 74 = .ok (.lreturn, 1) := by decide +kernel
theorem dX8_as_75 : decode cX8_as 75 = .ok (.lload_n 1, 1) := by decide +kernel
theorem dX8_as_76 : decode cX8_as 76 = .ok (.lreturn, 1) := by decide +kernel
theorem dX8_as_77 : decode cX8_as 77 = .ok (.lload_n 1, 1) := by decide +kernel
theorem dX8_as_78 : decode cX8_as 78 = .ok (.l2f, 1) := by decide +kernel
theorem dX8_as_79 : decode cX8_as 79 = .ok (.f2l, 1) := by decide +kernel
theorem dX8_as_80 : decode cX8_as 80 = .ok (.lreturn, 1) := by decide +kernel
theorem dX8_as_81 : decode cX8_as 81 = .ok (.lload_n 1, 1) := by decide +kernel
theorem dX8_as_82 : decode cX8_as 82 = .ok (.l2d, 1) := by decide +kernel
theorem dX8_as_83 : decode cX8_as 83 = .ok (.d2l, 1) := by decide +kernel
theorem dX8_as_84 : decode cX8_as 84 = .ok (.lreturn, 1) := by decide +kernel
theorem dX8_met1_0 : decode cX8_met1 0 = .ok (.aload_n 0, 1) := by decide +kernel
theorem dX8_met1_1 : decode cX8_met1 1 = .ok (.iload_n 1, 1) := by decide +kernel
theorem dX8_met1_2 : decode cX8_met1 2 = .ok (.putfield 46, 3) := by decide +kernel
theorem dX8_met1_5 : decode cX8_met1 5 = .ok (.aload_n 0, 1) := by decide +kernel
theorem dX8_met1_6 : decode cX8_met1 6 = .ok (.getfield 37, 3) := by decide +kernel
theorem dX8_met1_9 : decode cX8_met1 9 = .ok (.iload_n 1, 1) := by decide +kernel
theorem dX8_met1_10 : decode cX8_met1 10 = .ok (.dup2, 1) := by decide +kernel
theorem dX8_met1_11 : decode cX8_met1 11 = .ok (.iaload, 1) := by decide +kernel
theorem dX8_met1_12 : decode cX8_met1 12 = .ok (.iconst 1, 1) := by decide +kernel
theorem dX8_met1_13 : decode cX8_met1 13 = .ok (.iadd, 1) := by decide +kernel
theorem dX8_met1_14 : decode cX8_met1 14 = .ok (.iastore, 1) := by decide +kernel
theorem dX8_met1_15 : decode cX8_met1 15 = .ok (.aload_n 0, 1) := by decide +kernel
theorem dX8_met1_16 : decode cX8_met1 16 = .ok (.getfield 37, 3) := by decide +kernel
theorem dX8_met1_19 : decode cX8_met1 19 = .ok (.iconst 0, 1) := by decide +kernel
theorem dX8_met1_20 : decode cX8_met1 20 = .ok (.dup2, 1) := by decide +kernel
theorem dX8_met1_21 : decode cX8_met1 21 = .ok (.iaload, 1) := by decide +kernel
theorem dX8_met1_22 : decode cX8_met1 22 = .ok (.iconst 1, 1) := by decide +kernel
theorem dX8_met1_23 : decode cX8_met1 23 = .ok (.iadd, 1) := by decide +kernel
theorem dX8_met1_24 : decode cX8_met1 24 = .ok (.iastore, 1) := by decide +kernel
theorem dX8_met1_25 : decode cX8_met1 25 = .ok (.iload_n 1, 1) := by decide +kernel
theorem dX8_met1_26 : decode cX8_met1 26 = .ok (.ireturn, 1) := by decide +kernel
theorem dX8_answer_0 : decode cX8_answer 0 = .ok (.iload_n 1, 1) := by decide +kernel
theorem dX8_answer_1 : decode cX8_answer 1 = .ok (.ifCond .le 14, 3) := by decide +kernel
theorem dX8_answer_4 : decode cX8_answer 4 = .ok (.bipush (-10), 2) := by decide +kernel
theorem dX8_answer_6 : decode cX8_answer 6 = .ok (.aload_n 0, 1) := by decide +kernel
theorem dX8_answer_7 : decode cX8_answer 7 = .ok (.iload_n 1, 1) := by decide +kernel
theorem dX8_answer_8 : decode cX8_answer 8 = .ok (.invokevirtual 50, 3) := by decide +kernel
theorem dX8_answer_11 : decode cX8_answer 11 = .ok (.isub, 1) := by decide +kernel
theorem dX8_answer_12 : decode cX8_answer 12 = .ok (.goto 4, 3) := by decide +kernel
theorem dX8_answer_15 : decode cX8_answer 15 = .ok (.iload_n 2, 1) := by decide +kernel
theorem dX8_answer_16 : decode cX8_answer 16 = .ok (.ireturn, 1) := by decide +kernel
theorem dX8_newRow_0 : decode cX8_newRow 0 = .ok (.aload_n 0, 1) := by decide +kernel
theorem dX8_newRow_1 : decode cX8_newRow 1 = .ok (.getfield 20, 3) := by decide +kernel
theorem dX8_newRow_4 : decode cX8_newRow 4 = .ok (.aload_n 0, 1) := by decide +kernel
theorem dX8_newRow_5 : decode cX8_newRow 5 = .ok (.getfield 54, 3) := by decide +kernel
theorem dX8_newRow_8 : decode cX8_newRow 8 = .ok (.iload_n 1, 1) := by decide +kernel
theorem dX8_newRow_9 : decode cX8_newRow 9 = .ok (.iastore, 1) := by decide +kernel
theorem dX8_newRow_10 : decode cX8_newRow 10 = .ok (.aload_n 0, 1) := by decide +kernel
theorem dX8_newRow_11 : decode cX8_newRow 11 = .ok (.getfield 23, 3) := by decide +kernel
theorem dX8_newRow_14 : decode cX8_newRow 14 = .ok (.aload_n 0, 1) := by decide +kernel
theorem dX8_newRow_15 : decode cX8_newRow 15 = .ok (.getfield 54, 3) := by decide +kernel
theorem dX8_newRow_18 : decode cX8_newRow 18 = .ok (.iload_n 2, 1) := by decide +kernel
theorem dX8_newRow_19 : decode cX8_newRow 19 = .ok (.iastore, 1) := by decide +kernel
theorem dX8_newRow_20 : decode cX8_newRow 20 = .ok (.iconst 0, 1) := by decide +kernel
theorem dX8_newRow_21 : decode cX8_newRow 21 = .ok (.istore_n 3, 1) := by decide +kernel
theorem dX8_newRow_22 : decode cX8_newRow 22 = .ok (.iload_n 3, 1) := by decide +kernel
theorem dX8_newRow_23 : decode cX8_newRow 23 = .ok (.bipush 16, 2) := by decide +kernel
theorem dX8_newRow_25 : decode cX8_newRow 25 = .ok (.if_icmp .ge 24, 3) := by decide +kernel
theorem dX8_newRow_28 : decode cX8_newRow 28 = .ok (.aload_n 0, 1) := by decide +kernel
theorem dX8_newRow_29 : decode cX8_newRow 29 = .ok (.getfield 27, 3) := by decide +kernel
theorem dX8_newRow_32 : decode cX8_newRow 32 = .ok (.bipush 16, 2) := by decide +kernel
theorem dX8_newRow_34 : decode cX8_newRow 34 = .ok (.aload_n 0, 1) := by decide +kernel
theorem dX8_newRow_35 : decode cX8_newRow 35 = .ok (.getfield 54, 3) := by decide +kernel
theorem dX8_newRow_38 : decode cX8_newRow 38 = .ok (.imul, 1) := by decide +kernel
theorem dX8_newRow_39 : decode cX8_newRow 39 = .ok (.iload_n 3, 1) := by decide +kernel
theorem dX8_newRow_40 : decode cX8_newRow 40 = .ok (.iadd, 1) := by decide +kernel
theorem dX8_newRow_41 : decode cX8_newRow 41 = .ok (.lconst 0, 1) := by decide +kernel
theorem dX8_newRow_42 : decode cX8_newRow 42 = .ok (.lastore, 1) := by decide +kernel
theorem dX8_newRow_43 : decode cX8_newRow 43 = .ok (.iinc 3 1, 3) := by decide +kernel
theorem dX8_newRow_46 : decode cX8_newRow 46 = .ok (.goto (-24), 3) := by decide +kernel
theorem dX8_newRow_49 : decode cX8_newRow 49 = .ok (.aload_n 0, 1) := by decide +kernel
theorem dX8_newRow_50 : decode cX8_newRow 50 = .ok (.dup, 1) := by decide +kernel
theorem dX8_newRow_51 : decode cX8_newRow 51 = .ok (.getfield 54, 3) := by decide +kernel
theorem dX8_newRow_54 : decode cX8_newRow 54 = .ok (.iconst 1, 1) := by decide +kernel
theorem dX8_newRow_55 : decode cX8_newRow 55 = .ok (.iadd, 1) := by decide +kernel
theorem dX8_newRow_56 : decode cX8_newRow 56 = .ok (.putfield 54, 3) := by decide +kernel
theorem dX8_newRow_59 : decode cX8_newRow 59 = .ok (.aload_n 0, 1) := by decide +kernel
theorem dX8_newRow_60 : decode cX8_newRow 60 = .ok (.getfield 54, 3) := by decide +kernel
theorem dX8_newRow_63 : decode cX8_newRow 63 = .ok (.iconst 1, 1) := by decide +kernel
theorem dX8_newRow_64 : decode cX8_newRow 64 = .ok (.isub, 1) := by decide +kernel
theorem dX8_newRow_65 : decode cX8_newRow 65 = .ok (.ireturn, 1) := by decide +kernel
theorem dX8_rack_0 : decode cX8_rack 0 = .ok (.iload_n 1, 1) := by decide +kernel
theorem dX8_rack_1 : decode cX8_rack 1 = .ok (.invokestatic 57, 3) := by decide +kernel
theorem dX8_rack_4 : decode cX8_rack 4 = .ok (.ifCond .eq 5, 3) := by decide +kernel
theorem dX8_rack_7 : decode cX8_rack 7 = .ok (.iconst (-1), 1) := by decide +kernel
theorem dX8_rack_8 : decode cX8_rack 8 = .ok (.ireturn, 1) := by decide +kernel
theorem dX8_rack_9 : decode cX8_rack 9 = .ok (.iload_n 2, 1) := by decide +kernel
theorem dX8_rack_10 : decode cX8_rack 10 = .ok (.i2l, 1) := by decide +kernel
theorem dX8_rack_11 : decode cX8_rack 11 = .ok (.lconst 0, 1) := by decide +kernel
theorem dX8_rack_12 : decode cX8_rack 12 = .ok (.ldc2_w 61, 3) := by decide +kernel
theorem dX8_rack_15 : decode cX8_rack 15 = .ok (.invokestatic 42, 3) := by decide +kernel
theorem dX8_rack_18 : decode cX8_rack 18 = .ok (.ifCond .ne 15, 3) := by decide +kernel
theorem dX8_rack_21 : decode cX8_rack 21 = .ok (.iload_n 3, 1) := by decide +kernel
theorem dX8_rack_22 : decode cX8_rack 22 = .ok (.i2l, 1) := by decide +kernel
theorem dX8_rack_23 : decode cX8_rack 23 = .ok (.lconst 0, 1) := by decide +kernel
theorem dX8_rack_24 : decode cX8_rack 24 = .ok (.ldc2_w 63, 3) := by decide +kernel
theorem dX8_rack_27 : decode cX8_rack 27 = .ok (.invokestatic 42, 3) := by decide +kernel
theorem dX8_rack_30 : decode cX8_rack 30 = .ok (.ifCond .eq 6, 3) := by decide +kernel
theorem dX8_rack_33 : decode cX8_rack 33 = .ok (.bipush (-2), 2) := by decide +kernel
theorem dX8_rack_35 : decode cX8_rack 35 = .ok (.ireturn, 1) := by decide +kernel
theorem dX8_rack_36 : decode cX8_rack 36 = .ok (.aload_n 0, 1) := by decide +kernel
theorem dX8_rack_37 : decode cX8_rack 37 = .ok (.getfield 7, 3) := by decide +kernel
theorem dX8_rack_40 : decode cX8_rack 40 = .ok (.iload_n 1, 1) := by decide +kernel
theorem dX8_rack_41 : decode cX8_rack 41 = .ok (.iconst 3, 1) := by decide +kernel
theorem dX8_rack_42 : decode cX8_rack 42 = .ok (.iastore, 1) := by decide +kernel
theorem dX8_rack_43 : decode cX8_rack 43 = .ok (.aload_n 0, 1) := by decide +kernel
theorem dX8_rack_44 : decode cX8_rack 44 = .ok (.getfield 13, 3) := by decide +kernel
theorem dX8_rack_47 : decode cX8_rack 47 = .ok (.iload_n 1, 1) := by decide +kernel
theorem dX8_rack_48 : decode cX8_rack 48 = .ok (.aload_n 0, 1) := by decide +kernel
theorem dX8_rack_49 : decode cX8_rack 49 = .ok (.iload_n 2, 1) := by decide +kernel
theorem dX8_rack_50 : decode cX8_rack 50 = .ok (.iload_n 3, 1) := by decide +kernel
theorem dX8_rack_51 : decode cX8_rack 51 = .ok (.invokevirtual 65, 3) := by decide +kernel
theorem dX8_rack_54 : decode cX8_rack 54 = .ok (.iastore, 1) := by decide +kernel
theorem dX8_rack_55 : decode cX8_rack 55 = .ok (.iload_n 3, 1) := by decide +kernel
theorem dX8_rack_56 : decode cX8_rack 56 = .ok (.ireturn, 1) := by decide +kernel
theorem dX8_hang_0 : decode cX8_hang 0 = .ok (.iload_n 1, 1) := by decide +kernel
theorem dX8_hang_1 : decode cX8_hang 1 = .ok (.invokestatic 57, 3) := by decide +kernel
theorem dX8_hang_4 : decode cX8_hang 4 = .ok (.ifCond .eq 5, 3) := by decide +kernel
theorem dX8_hang_7 : decode cX8_hang 7 = .ok (.iconst (-1), 1) := by decide +kernel
theorem dX8_hang_8 : decode cX8_hang 8 = .ok (.ireturn, 1) := by decide +kernel
theorem dX8_hang_9 : decode cX8_hang 9 = .ok (.aload_n 0, 1) := by decide +kernel
theorem dX8_hang_10 : decode cX8_hang 10 = .ok (.getfield 69, 3) := by decide +kernel
theorem dX8_hang_13 : decode cX8_hang 13 = .ok (.iconst 2, 1) := by decide +kernel
theorem dX8_hang_14 : decode cX8_hang 14 = .ok (.if_icmp .ge 6, 3) := by decide +kernel
theorem dX8_hang_17 : decode cX8_hang 17 = .ok (.bipush (-3), 2) := by decide +kernel
theorem dX8_hang_19 : decode cX8_hang 19 = .ok (.ireturn, 1) := by decide +kernel
theorem dX8_hang_20 : decode cX8_hang 20 = .ok (.aload_n 0, 1) := by decide +kernel
theorem dX8_hang_21 : decode cX8_hang 21 = .ok (.getfield 7, 3) := by decide +kernel
theorem dX8_hang_24 : decode cX8_hang 24 = .ok (.iload_n 1, 1) := by decide +kernel
theorem dX8_hang_25 : decode cX8_hang 25 = .ok (.aload_n 0, 1) := by decide +kernel
theorem dX8_hang_26 : decode cX8_hang 26 = .ok (.getfield 69, 3) := by decide +kernel
theorem dX8_hang_29 : decode cX8_hang 29 = .ok (.iastore, 1) := by decide +kernel
theorem dX8_hang_30 : decode cX8_hang 30 = .ok (.aload_n 0, 1) := by decide +kernel
theorem dX8_hang_31 : decode cX8_hang 31 = .ok (.getfield 13, 3) := by decide +kernel
theorem dX8_hang_34 : decode cX8_hang 34 = .ok (.iload_n 1, 1) := by decide +kernel
theorem dX8_hang_35 : decode cX8_hang 35 = .ok (.aload_n 0, 1) := by decide +kernel
theorem dX8_hang_36 : decode cX8_hang 36 = .ok (.getfield 72, 3) := by decide +kernel
theorem dX8_hang_39 : decode cX8_hang 39 = .ok (.iastore, 1) := by decide +kernel
theorem dX8_hang_40 : decode cX8_hang 40 = .ok (.iconst 1, 1) := by decide +kernel
theorem dX8_hang_41 : decode cX8_hang 41 = .ok (.ireturn, 1) := by decide +kernel
theorem dX8_share_0 : decode cX8_share 0 = .ok (.iload_n 1, 1) := by decide +kernel
theorem dX8_share_1 : decode cX8_share 1 = .ok (.invokestatic 57, 3) := by decide +kernel
theorem dX8_share_4 : decode cX8_share 4 = .ok (.ifCond .ne 10, 3) := by decide +kernel
theorem dX8_share_7 : decode cX8_share 7 = .ok (.iload_n 2, 1) := by decide +kernel
theorem dX8_share_8 : decode cX8_share 8 = .ok (.invokestatic 57, 3) := by decide +kernel
theorem dX8_share_11 : decode cX8_share 11 = .ok (.ifCond .eq 5, 3) := by decide +kernel
theorem dX8_share_14 : decode cX8_share 14 = .ok (.iconst (-1), 1) := by decide +kernel
theorem dX8_share_15 : decode cX8_share 15 = .ok (.ireturn, 1) := by decide +kernel
theorem dX8_share_16 : decode cX8_share 16 = .ok (.aload_n 0, 1) := by decide +kernel
theorem dX8_share_17 : decode cX8_share 17 = .ok (.getfield 7, 3) := by decide +kernel
theorem dX8_share_20 : decode cX8_share 20 = .ok (.iload_n 1, 1) := by decide +kernel
theorem dX8_share_21 : decode cX8_share 21 = .ok (.aload_n 0, 1) := by decide +kernel
theorem dX8_share_22 : decode cX8_share 22 = .ok (.getfield 7, 3) := by decide +kernel
theorem dX8_share_25 : decode cX8_share 25 = .ok (.iload_n 2, 1) := by decide +kernel
theorem dX8_share_26 : decode cX8_share 26 = .ok (.iaload, 1) := by decide +kernel
theorem dX8_share_27 : decode cX8_share 27 = .ok (.iastore, 1) := by decide +kernel
theorem dX8_share_28 : decode cX8_share 28 = .ok (.aload_n 0, 1) := by decide +kernel
theorem dX8_share_29 : decode cX8_share 29 = .ok (.getfield 13, 3) := by decide +kernel
theorem dX8_share_32 : decode cX8_share 32 = .ok (.iload_n 1, 1) := by decide +kernel
theorem dX8_share_33 : decode cX8_share 33 = .ok (.aload_n 0, 1) := by decide +kernel
theorem dX8_share_34 : decode cX8_share 34 = .ok (.getfield 13, 3) := by decide +kernel
theorem dX8_share_37 : decode cX8_share 37 = .ok (.iload_n 2, 1) := by decide +kernel
theorem dX8_share_38 : decode cX8_share 38 = .ok (.iaload, 1) := by decide +kernel
theorem dX8_share_39 : decode cX8_share 39 = .ok (.iastore, 1) := by decide +kernel
theorem dX8_share_40 : decode cX8_share 40 = .ok (.iconst 1, 1) := by decide +kernel
theorem dX8_share_41 : decode cX8_share 41 = .ok (.ireturn, 1) := by decide +kernel
theorem dX8_empty_0 : decode cX8_empty 0 = .ok (.iload_n 1, 1) := by decide +kernel
theorem dX8_empty_1 : decode cX8_empty 1 = .ok (.invokestatic 57, 3) := by decide +kernel
theorem dX8_empty_4 : decode cX8_empty 4 = .ok (.ifCond .eq 5, 3) := by decide +kernel
theorem dX8_empty_7 : decode cX8_empty 7 = .ok (.iconst (-1), 1) := by decide +kernel
theorem dX8_empty_8 : decode cX8_empty 8 = .ok (.ireturn, 1) := by decide +kernel
theorem dX8_empty_9 : decode cX8_empty 9 = .ok (.aload_n 0, 1) := by decide +kernel
theorem dX8_empty_10 : decode cX8_empty 10 = .ok (.getfield 7, 3) := by decide +kernel
theorem dX8_empty_13 : decode cX8_empty 13 = .ok (.iload_n 1, 1) := by decide +kernel
theorem dX8_empty_14 : decode cX8_empty 14 = .ok (.iconst 0, 1) := by decide +kernel
theorem dX8_empty_15 : decode cX8_empty 15 = .ok (.iastore, 1) := by decide +kernel
theorem dX8_empty_16 : decode cX8_empty 16 = .ok (.iconst 1, 1) := by decide +kernel
theorem dX8_empty_17 : decode cX8_empty 17 = .ok (.ireturn, 1) := by decide +kernel
theorem dX8_hold_0 : decode cX8_hold 0 = .ok (.aload_n 0, 1) := by decide +kernel
theorem dX8_hold_1 : decode cX8_hold 1 = .ok (.iconst 1, 1) := by decide +kernel
theorem dX8_hold_2 : decode cX8_hold 2 = .ok (.putfield 69, 3) := by decide +kernel
theorem dX8_hold_5 : decode cX8_hold 5 = .ok (.aload_n 0, 1) := by decide +kernel
theorem dX8_hold_6 : decode cX8_hold 6 = .ok (.iload_n 1, 1) := by decide +kernel
theorem dX8_hold_7 : decode cX8_hold 7 = .ok (.putfield 75, 3) := by decide +kernel
theorem dX8_hold_10 : decode cX8_hold 10 = .ok (.aload_n 0, 1) := by decide +kernel
theorem dX8_hold_11 : decode cX8_hold 11 = .ok (.lload_n 2, 1) := by decide +kernel
theorem dX8_hold_12 : decode cX8_hold 12 = .ok (.putfield 78, 3) := by decide +kernel
theorem dX8_hold_15 : decode cX8_hold 15 = .ok (.return_, 1) := by decide +kernel
theorem dX8_gauge_0 : decode cX8_gauge 0 = .ok (.iload_n 1, 1) := by decide +kernel
theorem dX8_gauge_1 : decode cX8_gauge 1 = .ok (.i2l, 1) := by decide +kernel
theorem dX8_gauge_2 : decode cX8_gauge 2 = .ok (.lconst 0, 1) := by decide +kernel
theorem dX8_gauge_3 : decode cX8_gauge 3 = .ok (.ldc2_w 82, 3) := by decide +kernel
theorem dX8_gauge_6 : decode cX8_gauge 6 = .ok (.invokestatic 42, 3) := by decide +kernel
theorem dX8_gauge_9 : decode cX8_gauge 9 = .ok (.ifCond .eq 6, 3) := by decide +kernel
theorem dX8_gauge_12 : decode cX8_gauge 12 = .ok (.bipush (-2), 2) := by decide +kernel
theorem dX8_gauge_14 : decode cX8_gauge 14 = .ok (.ireturn, 1) := by decide +kernel
theorem dX8_gauge_15 : decode cX8_gauge 15 = .ok (.aload_n 0, 1) := by decide +kernel
theorem dX8_gauge_16 : decode cX8_gauge 16 = .ok (.iload_n 1, 1) := by decide +kernel
theorem dX8_gauge_17 : decode cX8_gauge 17 = .ok (.iload_n 1, 1) := by decide +kernel
theorem dX8_gauge_18 : decode cX8_gauge 18 = .ok (.lload_n 2, 1) := by decide +kernel
theorem dX8_gauge_19 : decode cX8_gauge 19 = .ok (.invokestatic 84, 3) := by decide +kernel
theorem dX8_gauge_22 : decode cX8_gauge 22 = .ok (.invokevirtual 88, 3) := by decide +kernel
theorem dX8_gauge_25 : decode cX8_gauge 25 = .ok (.iconst 1, 1) := by decide +kernel
theorem dX8_gauge_26 : decode cX8_gauge 26 = .ok (.ireturn, 1) := by decide +kernel
theorem dX8_probe_0 : decode cX8_probe 0 = .ok (.aload_n 0, 1) := by decide +kernel
theorem dX8_probe_1 : decode cX8_probe 1 = .ok (.getfield 92, 3) := by decide +kernel
theorem dX8_probe_4 : decode cX8_probe 4 = .ok (.bipush 40, 2) := by decide +kernel
theorem dX8_probe_6 : decode cX8_probe 6 = .ok (.if_icmp .ne 6, 3) := by decide +kernel
theorem dX8_probe_9 : decode cX8_probe 9 = .ok (.bipush (-4), 2) := by decide +kernel
theorem dX8_probe_11 : decode cX8_probe 11 = .ok (.ireturn, 1) := by decide +kernel
theorem dX8_probe_12 : decode cX8_probe 12 = .ok (.aload_n 0, 1) := by decide +kernel
theorem dX8_probe_13 : decode cX8_probe 13 = .ok (.dup, 1) := by decide +kernel
theorem dX8_probe_14 : decode cX8_probe 14 = .ok (.getfield 92, 3) := by decide +kernel
theorem dX8_probe_17 : decode cX8_probe 17 = .ok (.iconst 1, 1) := by decide +kernel
theorem dX8_probe_18 : decode cX8_probe 18 = .ok (.iadd, 1) := by decide +kernel
theorem dX8_probe_19 : decode cX8_probe 19 = .ok (.putfield 92, 3) := by decide +kernel
theorem dX8_probe_22 : decode cX8_probe 22 = .ok (.aload_n 0, 1) := by decide +kernel
theorem dX8_probe_23 : decode cX8_probe 23 = .ok (.getfield 16, 3) := by decide +kernel
theorem dX8_probe_26 : decode cX8_probe 26 = .ok (.aload_n 0, 1) := by decide +kernel
theorem dX8_probe_27 : decode cX8_probe 27 = .ok (.getfield 92, 3) := by decide +kernel
theorem dX8_probe_30 : decode cX8_probe 30 = .ok (.iload_n 1, 1) := by decide +kernel
theorem dX8_probe_31 : decode cX8_probe 31 = .ok (.bastore, 1) := by decide +kernel
theorem dX8_probe_32 : decode cX8_probe 32 = .ok (.aload_n 0, 1) := by decide +kernel
theorem dX8_probe_33 : decode cX8_probe 33 = .ok (.iconst 2, 1) := by decide +kernel
theorem dX8_probe_34 : decode cX8_probe 34 = .ok (.putfield 69, 3) := by decide +kernel
theorem dX8_probe_37 : decode cX8_probe 37 = .ok (.aload_n 0, 1) := by decide +kernel
theorem dX8_probe_38 : decode cX8_probe 38 = .ok (.aload_n 0, 1) := by decide +kernel
theorem dX8_probe_39 : decode cX8_probe 39 = .ok (.getfield 92, 3) := by decide +kernel
theorem dX8_probe_42 : decode cX8_probe 42 = .ok (.putfield 72, 3) := by decide +kernel
theorem dX8_probe_45 : decode cX8_probe 45 = .ok (.aload_n 0, 1) := by decide +kernel
theorem dX8_probe_46 : decode cX8_probe 46 = .ok (.getfield 92, 3) := by decide +kernel
theorem dX8_probe_49 : decode cX8_probe 49 = .ok (.ireturn, 1) := by decide +kernel
theorem dX8_line_0 : decode cX8_line 0 = .ok (.iload_n 1, 1) := by decide +kernel
theorem dX8_line_1 : decode cX8_line 1 = .ok (.i2l, 1) := by decide +kernel
theorem dX8_line_2 : decode cX8_line 2 = .ok (.lconst 0, 1) := by decide +kernel
theorem dX8_line_3 : decode cX8_line 3 = .ok (.ldc2_w 95, 3) := by decide +kernel
theorem dX8_line_6 : decode cX8_line 6 = .ok (.invokestatic 42, 3) := by decide +kernel
theorem dX8_line_9 : decode cX8_line 9 = .ok (.ifCond .eq 6, 3) := by decide +kernel
theorem dX8_line_12 : decode cX8_line 12 = .ok (.bipush (-2), 2) := by decide +kernel
theorem dX8_line_14 : decode cX8_line 14 = .ok (.ireturn, 1) := by decide +kernel
theorem dX8_line_15 : decode cX8_line 15 = .ok (.aload_n 0, 1) := by decide +kernel
theorem dX8_line_16 : decode cX8_line 16 = .ok (.iconst 3, 1) := by decide +kernel
theorem dX8_line_17 : decode cX8_line 17 = .ok (.putfield 69, 3) := by decide +kernel
theorem dX8_line_20 : decode cX8_line 20 = .ok (.aload_n 0, 1) := by decide +kernel
theorem dX8_line_21 : decode cX8_line 21 = .ok (.aload_n 0, 1) := by decide +kernel
theorem dX8_line_22 : decode cX8_line 22 = .ok (.iconst 4, 1) := by decide +kernel
theorem dX8_line_23 : decode cX8_line 23 = .ok (.iload_n 1, 1) := by decide +kernel
theorem dX8_line_24 : decode cX8_line 24 = .ok (.invokevirtual 65, 3) := by decide +kernel
theorem dX8_line_27 : decode cX8_line 27 = .ok (.putfield 72, 3) := by decide +kernel
theorem dX8_line_30 : decode cX8_line 30 = .ok (.iconst 1, 1) := by decide +kernel
theorem dX8_line_31 : decode cX8_line 31 = .ok (.ireturn, 1) := by decide +kernel
theorem dX8_none_0 : decode cX8_none 0 = .ok (.aload_n 0, 1) := by decide +kernel
theorem dX8_none_1 : decode cX8_none 1 = .ok (.iconst 0, 1) := by decide +kernel
theorem dX8_none_2 : decode cX8_none 2 = .ok (.putfield 69, 3) := by decide +kernel
theorem dX8_none_5 : decode cX8_none 5 = .ok (.iconst 1, 1) := by decide +kernel
theorem dX8_none_6 : decode cX8_none 6 = .ok (.ireturn, 1) := by decide +kernel
theorem dX8_getFault_0 : decode cX8_getFault 0 = .ok (.iload_n 1, 1) := by decide +kernel
theorem dX8_getFault_1 : decode cX8_getFault 1 = .ok (.ifCond .ne 7, 3) := by decide +kernel
theorem dX8_getFault_4 : decode cX8_getFault 4 = .ok (.iconst 1, 1) := by decide +kernel
theorem dX8_getFault_5 : decode cX8_getFault 5 = .ok (.goto 35, 3) := by decide +kernel
theorem dX8_getFault_8 : decode cX8_getFault 8 = .ok (.iload_n 1, 1) := by decide +kernel
theorem dX8_getFault_9 : decode cX8_getFault 9 = .ok (.iconst 3, 1) := by decide +kernel
theorem dX8_getFault_10 : decode cX8_getFault 10 = .ok (.if_icmp .eq 7, 3) := by decide +kernel
theorem dX8_getFault_13 : decode cX8_getFault 13 = .ok (.iconst 2, 1) := by decide +kernel
theorem dX8_getFault_14 : decode cX8_getFault 14 = .ok (.goto 26, 3) := by decide +kernel
theorem dX8_getFault_17 : decode cX8_getFault 17 = .ok (.iload_n 3, 1) := by decide +kernel
theorem dX8_getFault_18 : decode cX8_getFault 18 = .ok (.i2l, 1) := by decide +kernel
theorem dX8_getFault_19 : decode cX8_getFault 19 = .ok (.lconst 0, 1) := by decide +kernel
theorem dX8_getFault_20 : decode cX8_getFault 20 = .ok (.aload_n 0, 1) := by decide +kernel
theorem dX8_getFault_21 : decode cX8_getFault 21 = .ok (.getfield 23, 3) := by decide +kernel
theorem dX8_getFault_24 : decode cX8_getFault 24 = .ok (.iload_n 2, 1) := by decide +kernel
theorem dX8_getFault_25 : decode cX8_getFault 25 = .ok (.iaload, 1) := by decide +kernel
theorem dX8_getFault_26 : decode cX8_getFault 26 = .ok (.iconst 1, 1) := by decide +kernel
theorem dX8_getFault_27 : decode cX8_getFault 27 = .ok (.isub, 1) := by decide +kernel
theorem dX8_getFault_28 : decode cX8_getFault 28 = .ok (.i2l, 1) := by decide +kernel
theorem dX8_getFault_29 : decode cX8_getFault 29 = .ok (.invokestatic 42, 3) := by decide +kernel
theorem dX8_getFault_32 : decode cX8_getFault 32 = .ok (.ifCond .eq 7, 3) := by decide +kernel
theorem dX8_getFault_35 : decode cX8_getFault 35 = .ok (.iconst 3, 1) := by decide +kernel
theorem dX8_getFault_36 : decode cX8_getFault 36 = .ok (.goto 4, 3) := by decide +kernel
theorem dX8_getFault_39 : decode cX8_getFault 39 = .ok (.iconst 0, 1) := by decide +kernel
theorem dX8_getFault_40 : decode cX8_getFault 40 = .ok (.ireturn, 1) := by decide +kernel
theorem dX8_isNumbers_0 : decode cX8_isNumbers 0 = .ok (.aload_n 0, 1) := by decide +kernel
theorem dX8_isNumbers_1 : decode cX8_isNumbers 1 = .ok (.getfield 20, 3) := by decide +kernel
theorem dX8_isNumbers_4 : decode cX8_isNumbers 4 = .ok (.iload_n 1, 1) := by decide +kernel
theorem dX8_isNumbers_5 : decode cX8_isNumbers 5 = .ok (.iaload, 1) := by decide +kernel
theorem dX8_isNumbers_6 : decode cX8_isNumbers 6 = .ok (.bipush 8, 2) := by decide +kernel
theorem dX8_isNumbers_8 : decode cX8_isNumbers 8 = .ok (.if_icmp .ge 7, 3) := by decide +kernel
theorem dX8_isNumbers_11 : decode cX8_isNumbers 11 = .ok (.iconst 1, 1) := by decide +kernel
theorem dX8_isNumbers_12 : decode cX8_isNumbers 12 = .ok (.goto 4, 3) := by decide +kernel
theorem dX8_isNumbers_15 : decode cX8_isNumbers 15 = .ok (.iconst 0, 1) := by decide +kernel
theorem dX8_isNumbers_16 : decode cX8_isNumbers 16 = .ok (.ireturn, 1) := by decide +kernel
theorem dX8_readFault_0 : decode cX8_readFault 0 = .ok (.iload_n 1, 1) := by decide +kernel
theorem dX8_readFault_1 : decode cX8_readFault 1 = .ok (.ifCond .ne 7, 3) := by decide +kernel
theorem dX8_readFault_4 : decode cX8_readFault 4 = .ok (.iconst 1, 1) := by decide +kernel
theorem dX8_readFault_5 : decode cX8_readFault 5 = .ok (.goto 61, 3) := by decide +kernel
theorem dX8_readFault_8 : decode cX8_readFault 8 = .ok (.iload_n 1, 1) := by decide +kernel
theorem dX8_readFault_9 : decode cX8_readFault 9 = .ok (.iconst 3, 1) := by decide +kernel
theorem dX8_readFault_10 : decode cX8_readFault 10 = .ok (.if_icmp .ne 11, 3) := by decide +kernel
theorem dX8_readFault_13 : decode cX8_readFault 13 = .ok (.aload_n 0, 1) := by decide +kernel
theorem dX8_readFault_14 : decode cX8_readFault 14 = .ok (.iload_n 2, 1) := by decide +kernel
theorem dX8_readFault_15 : decode cX8_readFault 15 = .ok (.invokevirtual 97, 3) := by decide +kernel
theorem dX8_readFault_18 : decode cX8_readFault 18 = .ok (.ifCond .ne 7, 3) := by decide +kernel
theorem dX8_readFault_21 : decode cX8_readFault 21 = .ok (.iconst 2, 1) := by decide +kernel
theorem dX8_readFault_22 : decode cX8_readFault 22 = .ok (.goto 44, 3) := by decide +kernel
theorem dX8_readFault_25 : decode cX8_readFault 25 = .ok (.iload_n 3, 1) := by decide +kernel
theorem dX8_readFault_26 : decode cX8_readFault 26 = .ok (.i2l, 1) := by decide +kernel
theorem dX8_readFault_27 : decode cX8_readFault 27 = .ok (.lconst 0, 1) := by decide +kernel
theorem dX8_readFault_28 : decode cX8_readFault 28 = .ok (.aload_n 0, 1) := by decide +kernel
theorem dX8_readFault_29 : decode cX8_readFault 29 = .ok (.getfield 23, 3) := by decide +kernel
theorem dX8_readFault_32 : decode cX8_readFault 32 = .ok (.iload_n 2, 1) := by decide +kernel
theorem dX8_readFault_33 : decode cX8_readFault 33 = .ok (.iaload, 1) := by decide +kernel
theorem dX8_readFault_34 : decode cX8_readFault 34 = .ok (.iconst 1, 1) := by decide +kernel
theorem dX8_readFault_35 : decode cX8_readFault 35 = .ok (.isub, 1) := by decide +kernel
theorem dX8_readFault_36 : decode cX8_readFault 36 = .ok (.i2l, 1) := by decide +kernel
theorem dX8_readFault_37 : decode cX8_readFault 37 = .ok (.invokestatic 42, 3) := by decide +kernel
theorem dX8_readFault_40 : decode cX8_readFault 40 = .ok (.ifCond .eq 7, 3) := by decide +kernel
theorem dX8_readFault_43 : decode cX8_readFault 43 = .ok (.iconst 3, 1) := by decide +kernel
theorem dX8_readFault_44 : decode cX8_readFault 44 = .ok (.goto 22, 3) := by decide +kernel
theorem dX8_readFault_47 : decode cX8_readFault 47 = .ok (.aload_n 0, 1) := by decide +kernel
theorem dX8_readFault_48 : decode cX8_readFault 48 = .ok (.getfield 20, 3) := by decide +kernel
theorem dX8_readFault_51 : decode cX8_readFault 51 = .ok (.iload_n 2, 1) := by decide +kernel
theorem dX8_readFault_52 : decode cX8_readFault 52 = .ok (.iaload, 1) := by decide +kernel
theorem dX8_readFault_53 : decode cX8_readFault 53 = .ok (.iload 4, 2) := by decide +kernel
theorem dX8_readFault_55 : decode cX8_readFault 55 = .ok (.invokestatic 100, 3) := by decide +kernel
theorem dX8_readFault_58 : decode cX8_readFault 58 = .ok (.ifCond .eq 7, 3) := by decide +kernel
theorem dX8_readFault_61 : decode cX8_readFault 61 = .ok (.iconst 0, 1) := by decide +kernel
theorem dX8_readFault_62 : decode cX8_readFault 62 = .ok (.goto 4, 3) := by decide +kernel
theorem dX8_readFault_65 : decode cX8_readFault 65 = .ok (.iconst 2, 1) := by decide +kernel
theorem dX8_readFault_66 : decode cX8_readFault 66 = .ok (.ireturn, 1) := by decide +kernel
theorem dX8_writeFault_0 : decode cX8_writeFault 0 = .ok (.iload_n 1, 1) := by decide +kernel
theorem dX8_writeFault_1 : decode cX8_writeFault 1 = .ok (.ifCond .ne 7, 3) := by decide +kernel
theorem dX8_writeFault_4 : decode cX8_writeFault 4 = .ok (.iconst 1, 1) := by decide +kernel
theorem dX8_writeFault_5 : decode cX8_writeFault 5 = .ok (.goto 61, 3) := by decide +kernel
theorem dX8_writeFault_8 : decode cX8_writeFault 8 = .ok (.iload_n 1, 1) := by decide +kernel
theorem dX8_writeFault_9 : decode cX8_writeFault 9 = .ok (.iconst 3, 1) := by decide +kernel
theorem dX8_writeFault_10 : decode cX8_writeFault 10 = .ok (.if_icmp .ne 11, 3) := by decide +kernel
theorem dX8_writeFault_13 : decode cX8_writeFault 13 = .ok (.aload_n 0, 1) := by decide +kernel
theorem dX8_writeFault_14 : decode cX8_writeFault 14 = .ok (.iload_n 2, 1) := by decide +kernel
theorem dX8_writeFault_15 : decode cX8_writeFault 15 = .ok (.invokevirtual 97, 3) := by decide +kernel
theorem dX8_writeFault_18 : decode cX8_writeFault 18 = .ok (.ifCond .ne 7, 3) := by decide +kernel
theorem dX8_writeFault_21 : decode cX8_writeFault 21 = .ok (.iconst 2, 1) := by decide +kernel
theorem dX8_writeFault_22 : decode cX8_writeFault 22 = .ok (.goto 44, 3) := by decide +kernel
theorem dX8_writeFault_25 : decode cX8_writeFault 25 = .ok (.iload_n 3, 1) := by decide +kernel
theorem dX8_writeFault_26 : decode cX8_writeFault 26 = .ok (.i2l, 1) := by decide +kernel
theorem dX8_writeFault_27 : decode cX8_writeFault 27 = .ok (.lconst 0, 1) := by decide +kernel
theorem dX8_writeFault_28 : decode cX8_writeFault 28 = .ok (.aload_n 0, 1) := by decide +kernel
theorem dX8_writeFault_29 : decode cX8_writeFault 29 = .ok (.getfield 23, 3) := by decide +kernel
theorem dX8_writeFault_32 : decode cX8_writeFault 32 = .ok (.iload_n 2, 1) := by decide +kernel
theorem dX8_writeFault_33 : decode cX8_writeFault 33 = .ok (.iaload, 1) := by decide +kernel
theorem dX8_writeFault_34 : decode cX8_writeFault 34 = .ok (.iconst 1, 1) := by decide +kernel
theorem dX8_writeFault_35 : decode cX8_writeFault 35 = .ok (.isub, 1) := by decide +kernel
theorem dX8_writeFault_36 : decode cX8_writeFault 36 = .ok (.i2l, 1) := by decide +kernel
theorem dX8_writeFault_37 : decode cX8_writeFault 37 = .ok (.invokestatic 42, 3) := by decide +kernel
theorem dX8_writeFault_40 : decode cX8_writeFault 40 = .ok (.ifCond .eq 7, 3) := by decide +kernel
theorem dX8_writeFault_43 : decode cX8_writeFault 43 = .ok (.iconst 3, 1) := by decide +kernel
theorem dX8_writeFault_44 : decode cX8_writeFault 44 = .ok (.goto 22, 3) := by decide +kernel
theorem dX8_writeFault_47 : decode cX8_writeFault 47 = .ok (.iload 4, 2) := by decide +kernel
theorem dX8_writeFault_49 : decode cX8_writeFault 49 = .ok (.aload_n 0, 1) := by decide +kernel
theorem dX8_writeFault_50 : decode cX8_writeFault 50 = .ok (.getfield 20, 3) := by decide +kernel
theorem dX8_writeFault_53 : decode cX8_writeFault 53 = .ok (.iload_n 2, 1) := by decide +kernel
theorem dX8_writeFault_54 : decode cX8_writeFault 54 = .ok (.iaload, 1) := by decide +kernel
theorem dX8_writeFault_55 : decode cX8_writeFault 55 = .ok (.invokestatic 100, 3) := by decide +kernel
theorem dX8_writeFault_58 : decode cX8_writeFault 58 = .ok (.ifCond .eq 7, 3) := by decide +kernel
theorem dX8_writeFault_61 : decode cX8_writeFault 61 = .ok (.iconst 0, 1) := by decide +kernel
theorem dX8_writeFault_62 : decode cX8_writeFault 62 = .ok (.goto 4, 3) := by decide +kernel
theorem dX8_writeFault_65 : decode cX8_writeFault 65 = .ok (.iconst 2, 1) := by decide +kernel
theorem dX8_writeFault_66 : decode cX8_writeFault 66 = .ok (.ireturn, 1) := by decide +kernel
theorem dX8_unfit_0 : decode cX8_unfit 0 = .ok (.aload_n 0, 1) := by decide +kernel
theorem dX8_unfit_1 : decode cX8_unfit 1 = .ok (.getfield 20, 3) := by decide +kernel
theorem dX8_unfit_4 : decode cX8_unfit 4 = .ok (.iload_n 1, 1) := by decide +kernel
theorem dX8_unfit_5 : decode cX8_unfit 5 = .ok (.iaload, 1) := by decide +kernel
theorem dX8_unfit_6 : decode cX8_unfit 6 = .ok (.istore_n 2, 1) := by decide +kernel
theorem dX8_unfit_7 : decode cX8_unfit 7 = .ok (.iload_n 2, 1) := by decide +kernel
theorem dX8_unfit_8 : decode cX8_unfit 8 = .ok (.bipush 8, 2) := by decide +kernel
theorem dX8_unfit_10 : decode cX8_unfit 10 = .ok (.if_icmp .ge 28, 3) := by decide +kernel
theorem dX8_unfit_13 : decode cX8_unfit 13 = .ok (.aload_n 0, 1) := by decide +kernel
theorem dX8_unfit_14 : decode cX8_unfit 14 = .ok (.getfield 69, 3) := by decide +kernel
theorem dX8_unfit_17 : decode cX8_unfit 17 = .ok (.iconst 1, 1) := by decide +kernel
theorem dX8_unfit_18 : decode cX8_unfit 18 = .ok (.if_icmp .ne 14, 3) := by decide +kernel
theorem dX8_unfit_21 : decode cX8_unfit 21 = .ok (.aload_n 0, 1) := by decide +kernel
theorem dX8_unfit_22 : decode cX8_unfit 22 = .ok (.getfield 75, 3) := by decide +kernel
theorem dX8_unfit_25 : decode cX8_unfit 25 = .ok (.iload_n 2, 1) := by decide +kernel
theorem dX8_unfit_26 : decode cX8_unfit 26 = .ok (.invokestatic 100, 3) := by decide +kernel
theorem dX8_unfit_29 : decode cX8_unfit 29 = .ok (.ifCond .ne 7, 3) := by decide +kernel
theorem dX8_unfit_32 : decode cX8_unfit 32 = .ok (.iconst 1, 1) := by decide +kernel
theorem dX8_unfit_33 : decode cX8_unfit 33 = .ok (.goto 4, 3) := by decide +kernel
theorem dX8_unfit_36 : decode cX8_unfit 36 = .ok (.iconst 0, 1) := by decide +kernel
theorem dX8_unfit_37 : decode cX8_unfit 37 = .ok (.ireturn, 1) := by decide +kernel
theorem dX8_unfit_38 : decode cX8_unfit 38 = .ok (.aload_n 0, 1) := by decide +kernel
theorem dX8_unfit_39 : decode cX8_unfit 39 = .ok (.getfield 69, 3) := by decide +kernel
theorem dX8_unfit_42 : decode cX8_unfit 42 = .ok (.iconst 1, 1) := by decide +kernel
theorem dX8_unfit_43 : decode cX8_unfit 43 = .ok (.if_icmp .eq 49, 3) := by decide +kernel
theorem dX8_unfit_46 : decode cX8_unfit 46 = .ok (.aload_n 0, 1) := by decide +kernel
theorem dX8_unfit_47 : decode cX8_unfit 47 = .ok (.getfield 69, 3) := by decide +kernel
theorem dX8_unfit_50 : decode cX8_unfit 50 = .ok (.iconst 2, 1) := by decide +kernel
theorem dX8_unfit_51 : decode cX8_unfit 51 = .ok (.if_icmp .ne 27, 3) := by decide +kernel
theorem dX8_unfit_54 : decode cX8_unfit 54 = .ok (.iload_n 2, 1) := by decide +kernel
theorem dX8_unfit_55 : decode cX8_unfit 55 = .ok (.bipush 10, 2) := by decide +kernel
theorem dX8_unfit_57 : decode cX8_unfit 57 = .ok (.if_icmp .eq 35, 3) := by decide +kernel
theorem dX8_unfit_60 : decode cX8_unfit 60 = .ok (.iload_n 2, 1) := by decide +kernel
theorem dX8_unfit_61 : decode cX8_unfit 61 = .ok (.bipush 9, 2) := by decide +kernel
theorem dX8_unfit_63 : decode cX8_unfit 63 = .ok (.if_icmp .ne 15, 3) := by decide +kernel
theorem dX8_unfit_66 : decode cX8_unfit 66 = .ok (.aload_n 0, 1) := by decide +kernel
theorem dX8_unfit_67 : decode cX8_unfit 67 = .ok (.getfield 16, 3) := by decide +kernel
theorem dX8_unfit_70 : decode cX8_unfit 70 = .ok (.aload_n 0, 1) := by decide +kernel
theorem dX8_unfit_71 : decode cX8_unfit 71 = .ok (.getfield 72, 3) := by decide +kernel
theorem dX8_unfit_74 : decode cX8_unfit 74 = .ok (.baload, 1) := by decide +kernel
theorem dX8_unfit_75 : decode cX8_unfit 75 = .ok (.ifCond .eq 17, 3) := by decide +kernel
theorem dX8_unfit_78 : decode cX8_unfit 78 = .ok (.aload_n 0, 1) := by decide +kernel
theorem dX8_unfit_79 : decode cX8_unfit 79 = .ok (.getfield 69, 3) := by decide +kernel
theorem dX8_unfit_82 : decode cX8_unfit 82 = .ok (.iconst 3, 1) := by decide +kernel
theorem dX8_unfit_83 : decode cX8_unfit 83 = .ok (.if_icmp .ne 13, 3) := by decide +kernel
theorem dX8_unfit_86 : decode cX8_unfit 86 = .ok (.iload_n 2, 1) := by decide +kernel
theorem dX8_unfit_87 : decode cX8_unfit 87 = .ok (.bipush 10, 2) := by decide +kernel
theorem dX8_unfit_89 : decode cX8_unfit 89 = .ok (.if_icmp .eq 7, 3) := by decide +kernel
theorem dX8_unfit_92 : decode cX8_unfit 92 = .ok (.iconst 1, 1) := by decide +kernel
theorem dX8_unfit_93 : decode cX8_unfit 93 = .ok (.goto 4, 3) := by decide +kernel
theorem dX8_unfit_96 : decode cX8_unfit 96 = .ok (.iconst 0, 1) := by decide +kernel
theorem dX8_unfit_97 : decode cX8_unfit 97 = .ok (.ireturn, 1) := by decide +kernel
theorem dX8_setFault_0 : decode cX8_setFault 0 = .ok (.aload_n 0, 1) := by decide +kernel
theorem dX8_setFault_1 : decode cX8_setFault 1 = .ok (.getfield 13, 3) := by decide +kernel
theorem dX8_setFault_4 : decode cX8_setFault 4 = .ok (.iload_n 1, 1) := by decide +kernel
theorem dX8_setFault_5 : decode cX8_setFault 5 = .ok (.iaload, 1) := by decide +kernel
theorem dX8_setFault_6 : decode cX8_setFault 6 = .ok (.istore_n 3, 1) := by decide +kernel
theorem dX8_setFault_7 : decode cX8_setFault 7 = .ok (.aload_n 0, 1) := by decide +kernel
theorem dX8_setFault_8 : decode cX8_setFault 8 = .ok (.getfield 7, 3) := by decide +kernel
theorem dX8_setFault_11 : decode cX8_setFault 11 = .ok (.iload_n 1, 1) := by decide +kernel
theorem dX8_setFault_12 : decode cX8_setFault 12 = .ok (.iaload, 1) := by decide +kernel
end
section
theorem dX8_setFault_13 : decode cX8_setFault 13 = .ok (.iconst 3, 1) := by decide +kernel
theorem dX8_setFault_14 : decode cX8_setFault 14 = .ok (.if_icmp .eq 18, 3) := by decide +kernel
theorem dX8_setFault_17 : decode cX8_setFault 17 = .ok (.aload_n 0, 1) := by decide +kernel
theorem dX8_setFault_18 : decode cX8_setFault 18 = .ok (.getfield 7, 3) := by decide +kernel
theorem dX8_setFault_21 : decode cX8_setFault 21 = .ok (.iload_n 1, 1) := by decide +kernel
theorem dX8_setFault_22 : decode cX8_setFault 22 = .ok (.iaload, 1) := by decide +kernel
theorem dX8_setFault_23 : decode cX8_setFault 23 = .ok (.ifCond .ne 7, 3) := by decide +kernel
theorem dX8_setFault_26 : decode cX8_setFault 26 = .ok (.iconst 1, 1) := by decide +kernel
theorem dX8_setFault_27 : decode cX8_setFault 27 = .ok (.goto 4, 3) := by decide +kernel
theorem dX8_setFault_30 : decode cX8_setFault 30 = .ok (.iconst 2, 1) := by decide +kernel
theorem dX8_setFault_31 : decode cX8_setFault 31 = .ok (.ireturn, 1) := by decide +kernel
theorem dX8_setFault_32 : decode cX8_setFault 32 = .ok (.aload_n 0, 1) := by decide +kernel
theorem dX8_setFault_33 : decode cX8_setFault 33 = .ok (.iload_n 3, 1) := by decide +kernel
theorem dX8_setFault_34 : decode cX8_setFault 34 = .ok (.invokevirtual 97, 3) := by decide +kernel
theorem dX8_setFault_37 : decode cX8_setFault 37 = .ok (.ifCond .eq 14, 3) := by decide +kernel
theorem dX8_setFault_40 : decode cX8_setFault 40 = .ok (.aload_n 0, 1) := by decide +kernel
theorem dX8_setFault_41 : decode cX8_setFault 41 = .ok (.getfield 69, 3) := by decide +kernel
theorem dX8_setFault_44 : decode cX8_setFault 44 = .ok (.ifCond .ne 7, 3) := by decide +kernel
theorem dX8_setFault_47 : decode cX8_setFault 47 = .ok (.iconst 2, 1) := by decide +kernel
theorem dX8_setFault_48 : decode cX8_setFault 48 = .ok (.goto 38, 3) := by decide +kernel
theorem dX8_setFault_51 : decode cX8_setFault 51 = .ok (.iload_n 2, 1) := by decide +kernel
theorem dX8_setFault_52 : decode cX8_setFault 52 = .ok (.i2l, 1) := by decide +kernel
theorem dX8_setFault_53 : decode cX8_setFault 53 = .ok (.lconst 0, 1) := by decide +kernel
theorem dX8_setFault_54 : decode cX8_setFault 54 = .ok (.aload_n 0, 1) := by decide +kernel
theorem dX8_setFault_55 : decode cX8_setFault 55 = .ok (.getfield 23, 3) := by decide +kernel
theorem dX8_setFault_58 : decode cX8_setFault 58 = .ok (.iload_n 3, 1) := by decide +kernel
theorem dX8_setFault_59 : decode cX8_setFault 59 = .ok (.iaload, 1) := by decide +kernel
theorem dX8_setFault_60 : decode cX8_setFault 60 = .ok (.iconst 1, 1) := by decide +kernel
theorem dX8_setFault_61 : decode cX8_setFault 61 = .ok (.isub, 1) := by decide +kernel
theorem dX8_setFault_62 : decode cX8_setFault 62 = .ok (.i2l, 1) := by decide +kernel
theorem dX8_setFault_63 : decode cX8_setFault 63 = .ok (.invokestatic 42, 3) := by decide +kernel
theorem dX8_setFault_66 : decode cX8_setFault 66 = .ok (.ifCond .eq 7, 3) := by decide +kernel
theorem dX8_setFault_69 : decode cX8_setFault 69 = .ok (.iconst 3, 1) := by decide +kernel
theorem dX8_setFault_70 : decode cX8_setFault 70 = .ok (.goto 16, 3) := by decide +kernel
theorem dX8_setFault_73 : decode cX8_setFault 73 = .ok (.aload_n 0, 1) := by decide +kernel
theorem dX8_setFault_74 : decode cX8_setFault 74 = .ok (.iload_n 3, 1) := by decide +kernel
theorem dX8_setFault_75 : decode cX8_setFault 75 = .ok (.invokevirtual 104, 3) := by decide +kernel
theorem dX8_setFault_78 : decode cX8_setFault 78 = .ok (.ifCond .eq 7, 3) := by decide +kernel
theorem dX8_setFault_81 : decode cX8_setFault 81 = .ok (.iconst 2, 1) := by decide +kernel
theorem dX8_setFault_82 : decode cX8_setFault 82 = .ok (.goto 4, 3) := by decide +kernel
theorem dX8_setFault_85 : decode cX8_setFault 85 = .ok (.iconst 0, 1) := by decide +kernel
theorem dX8_setFault_86 : decode cX8_setFault 86 = .ok (.ireturn, 1) := by decide +kernel
theorem dX8_gets_0 : decode cX8_gets 0 = .ok (.aload_n 0, 1) := by decide +kernel
theorem dX8_gets_1 : decode cX8_gets 1 = .ok (.getfield 27, 3) := by decide +kernel
theorem dX8_gets_4 : decode cX8_gets 4 = .ok (.bipush 16, 2) := by decide +kernel
theorem dX8_gets_6 : decode cX8_gets 6 = .ok (.iload_n 1, 1) := by decide +kernel
theorem dX8_gets_7 : decode cX8_gets 7 = .ok (.imul, 1) := by decide +kernel
theorem dX8_gets_8 : decode cX8_gets 8 = .ok (.iload_n 2, 1) := by decide +kernel
theorem dX8_gets_9 : decode cX8_gets 9 = .ok (.iadd, 1) := by decide +kernel
theorem dX8_gets_10 : decode cX8_gets 10 = .ok (.laload, 1) := by decide +kernel
theorem dX8_gets_11 : decode cX8_gets 11 = .ok (.lstore_n 3, 1) := by decide +kernel
theorem dX8_gets_12 : decode cX8_gets 12 = .ok (.aload_n 0, 1) := by decide +kernel
theorem dX8_gets_13 : decode cX8_gets 13 = .ok (.getfield 20, 3) := by decide +kernel
theorem dX8_gets_16 : decode cX8_gets 16 = .ok (.iload_n 1, 1) := by decide +kernel
theorem dX8_gets_17 : decode cX8_gets 17 = .ok (.iaload, 1) := by decide +kernel
theorem dX8_gets_18 : decode cX8_gets 18 = .ok (.istore 5, 2) := by decide +kernel
theorem dX8_gets_20 : decode cX8_gets 20 = .ok (.iload 5, 2) := by decide +kernel
theorem dX8_gets_22 : decode cX8_gets 22 = .ok (.bipush 8, 2) := by decide +kernel
theorem dX8_gets_24 : decode cX8_gets 24 = .ok (.if_icmp .ge 13, 3) := by decide +kernel
theorem dX8_gets_27 : decode cX8_gets 27 = .ok (.aload_n 0, 1) := by decide +kernel
theorem dX8_gets_28 : decode cX8_gets 28 = .ok (.iload 5, 2) := by decide +kernel
theorem dX8_gets_30 : decode cX8_gets 30 = .ok (.lload_n 3, 1) := by decide +kernel
theorem dX8_gets_31 : decode cX8_gets 31 = .ok (.invokevirtual 88, 3) := by decide +kernel
theorem dX8_gets_34 : decode cX8_gets 34 = .ok (.goto 48, 3) := by decide +kernel
theorem dX8_gets_37 : decode cX8_gets 37 = .ok (.aload_n 0, 1) := by decide +kernel
theorem dX8_gets_38 : decode cX8_gets 38 = .ok (.lload_n 3, 1) := by decide +kernel
theorem dX8_gets_39 : decode cX8_gets 39 = .ok (.lconst 0, 1) := by decide +kernel
theorem dX8_gets_40 : decode cX8_gets 40 = .ok (.lcmp, 1) := by decide +kernel
theorem dX8_gets_41 : decode cX8_gets 41 = .ok (.ifCond .ne 7, 3) := by decide +kernel
theorem dX8_gets_44 : decode cX8_gets 44 = .ok (.iconst 0, 1) := by decide +kernel
theorem dX8_gets_45 : decode cX8_gets 45 = .ok (.goto 15, 3) := by decide +kernel
theorem dX8_gets_48 : decode cX8_gets 48 = .ok (.iload 5, 2) := by decide +kernel
theorem dX8_gets_50 : decode cX8_gets 50 = .ok (.bipush 10, 2) := by decide +kernel
theorem dX8_gets_52 : decode cX8_gets 52 = .ok (.if_icmp .ne 7, 3) := by decide +kernel
theorem dX8_gets_55 : decode cX8_gets 55 = .ok (.iconst 3, 1) := by decide +kernel
theorem dX8_gets_56 : decode cX8_gets 56 = .ok (.goto 4, 3) := by decide +kernel
theorem dX8_gets_59 : decode cX8_gets 59 = .ok (.iconst 2, 1) := by decide +kernel
theorem dX8_gets_60 : decode cX8_gets 60 = .ok (.putfield 69, 3) := by decide +kernel
theorem dX8_gets_63 : decode cX8_gets 63 = .ok (.aload_n 0, 1) := by decide +kernel
theorem dX8_gets_64 : decode cX8_gets 64 = .ok (.iload 5, 2) := by decide +kernel
theorem dX8_gets_66 : decode cX8_gets 66 = .ok (.bipush 10, 2) := by decide +kernel
theorem dX8_gets_68 : decode cX8_gets 68 = .ok (.if_icmp .ne 9, 3) := by decide +kernel
theorem dX8_gets_71 : decode cX8_gets 71 = .ok (.lload_n 3, 1) := by decide +kernel
theorem dX8_gets_72 : decode cX8_gets 72 = .ok (.lconst 1, 1) := by decide +kernel
theorem dX8_gets_73 : decode cX8_gets 73 = .ok (.lsub, 1) := by decide +kernel
theorem dX8_gets_74 : decode cX8_gets 74 = .ok (.goto 4, 3) := by decide +kernel
theorem dX8_gets_77 : decode cX8_gets 77 = .ok (.lload_n 3, 1) := by decide +kernel
theorem dX8_gets_78 : decode cX8_gets 78 = .ok (.l2i, 1) := by decide +kernel
theorem dX8_gets_79 : decode cX8_gets 79 = .ok (.putfield 72, 3) := by decide +kernel
theorem dX8_gets_82 : decode cX8_gets 82 = .ok (.return_, 1) := by decide +kernel
theorem dX8_doGet_0 : decode cX8_doGet 0 = .ok (.aload_n 0, 1) := by decide +kernel
theorem dX8_doGet_1 : decode cX8_doGet 1 = .ok (.aload_n 0, 1) := by decide +kernel
theorem dX8_doGet_2 : decode cX8_doGet 2 = .ok (.getfield 7, 3) := by decide +kernel
theorem dX8_doGet_5 : decode cX8_doGet 5 = .ok (.iload_n 1, 1) := by decide +kernel
theorem dX8_doGet_6 : decode cX8_doGet 6 = .ok (.iaload, 1) := by decide +kernel
theorem dX8_doGet_7 : decode cX8_doGet 7 = .ok (.aload_n 0, 1) := by decide +kernel
theorem dX8_doGet_8 : decode cX8_doGet 8 = .ok (.getfield 13, 3) := by decide +kernel
theorem dX8_doGet_11 : decode cX8_doGet 11 = .ok (.iload_n 1, 1) := by decide +kernel
theorem dX8_doGet_12 : decode cX8_doGet 12 = .ok (.iaload, 1) := by decide +kernel
theorem dX8_doGet_13 : decode cX8_doGet 13 = .ok (.iload_n 2, 1) := by decide +kernel
theorem dX8_doGet_14 : decode cX8_doGet 14 = .ok (.invokevirtual 107, 3) := by decide +kernel
theorem dX8_doGet_17 : decode cX8_doGet 17 = .ok (.istore_n 3, 1) := by decide +kernel
theorem dX8_doGet_18 : decode cX8_doGet 18 = .ok (.iload_n 3, 1) := by decide +kernel
theorem dX8_doGet_19 : decode cX8_doGet 19 = .ok (.ifCond .ne 14, 3) := by decide +kernel
theorem dX8_doGet_22 : decode cX8_doGet 22 = .ok (.aload_n 0, 1) := by decide +kernel
theorem dX8_doGet_23 : decode cX8_doGet 23 = .ok (.aload_n 0, 1) := by decide +kernel
theorem dX8_doGet_24 : decode cX8_doGet 24 = .ok (.getfield 13, 3) := by decide +kernel
theorem dX8_doGet_27 : decode cX8_doGet 27 = .ok (.iload_n 1, 1) := by decide +kernel
theorem dX8_doGet_28 : decode cX8_doGet 28 = .ok (.iaload, 1) := by decide +kernel
theorem dX8_doGet_29 : decode cX8_doGet 29 = .ok (.iload_n 2, 1) := by decide +kernel
theorem dX8_doGet_30 : decode cX8_doGet 30 = .ok (.invokevirtual 111, 3) := by decide +kernel
theorem dX8_doGet_33 : decode cX8_doGet 33 = .ok (.iload_n 3, 1) := by decide +kernel
theorem dX8_doGet_34 : decode cX8_doGet 34 = .ok (.ireturn, 1) := by decide +kernel
theorem dX8_get_0 : decode cX8_get 0 = .ok (.iload_n 1, 1) := by decide +kernel
theorem dX8_get_1 : decode cX8_get 1 = .ok (.invokestatic 57, 3) := by decide +kernel
theorem dX8_get_4 : decode cX8_get 4 = .ok (.ifCond .eq 5, 3) := by decide +kernel
theorem dX8_get_7 : decode cX8_get 7 = .ok (.iconst (-1), 1) := by decide +kernel
theorem dX8_get_8 : decode cX8_get 8 = .ok (.ireturn, 1) := by decide +kernel
theorem dX8_get_9 : decode cX8_get 9 = .ok (.aload_n 0, 1) := by decide +kernel
theorem dX8_get_10 : decode cX8_get 10 = .ok (.iload_n 1, 1) := by decide +kernel
theorem dX8_get_11 : decode cX8_get 11 = .ok (.iload_n 2, 1) := by decide +kernel
theorem dX8_get_12 : decode cX8_get 12 = .ok (.invokevirtual 115, 3) := by decide +kernel
theorem dX8_get_15 : decode cX8_get 15 = .ok (.istore_n 3, 1) := by decide +kernel
theorem dX8_get_16 : decode cX8_get 16 = .ok (.aload_n 0, 1) := by decide +kernel
theorem dX8_get_17 : decode cX8_get 17 = .ok (.iload_n 3, 1) := by decide +kernel
theorem dX8_get_18 : decode cX8_get 18 = .ok (.aload_n 0, 1) := by decide +kernel
theorem dX8_get_19 : decode cX8_get 19 = .ok (.invokevirtual 118, 3) := by decide +kernel
theorem dX8_get_22 : decode cX8_get 22 = .ok (.invokevirtual 121, 3) := by decide +kernel
theorem dX8_get_25 : decode cX8_get 25 = .ok (.ireturn, 1) := by decide +kernel
theorem dX8_doSet_0 : decode cX8_doSet 0 = .ok (.aload_n 0, 1) := by decide +kernel
theorem dX8_doSet_1 : decode cX8_doSet 1 = .ok (.iload_n 1, 1) := by decide +kernel
theorem dX8_doSet_2 : decode cX8_doSet 2 = .ok (.iload_n 2, 1) := by decide +kernel
theorem dX8_doSet_3 : decode cX8_doSet 3 = .ok (.invokevirtual 124, 3) := by decide +kernel
theorem dX8_doSet_6 : decode cX8_doSet 6 = .ok (.istore_n 3, 1) := by decide +kernel
theorem dX8_doSet_7 : decode cX8_doSet 7 = .ok (.iload_n 3, 1) := by decide +kernel
theorem dX8_doSet_8 : decode cX8_doSet 8 = .ok (.ifCond .ne 82, 3) := by decide +kernel
theorem dX8_doSet_11 : decode cX8_doSet 11 = .ok (.aload_n 0, 1) := by decide +kernel
theorem dX8_doSet_12 : decode cX8_doSet 12 = .ok (.getfield 13, 3) := by decide +kernel
theorem dX8_doSet_15 : decode cX8_doSet 15 = .ok (.iload_n 1, 1) := by decide +kernel
theorem dX8_doSet_16 : decode cX8_doSet 16 = .ok (.iaload, 1) := by decide +kernel
theorem dX8_doSet_17 : decode cX8_doSet 17 = .ok (.istore 4, 2) := by decide +kernel
theorem dX8_doSet_19 : decode cX8_doSet 19 = .ok (.aload_n 0, 1) := by decide +kernel
theorem dX8_doSet_20 : decode cX8_doSet 20 = .ok (.getfield 27, 3) := by decide +kernel
theorem dX8_doSet_23 : decode cX8_doSet 23 = .ok (.bipush 16, 2) := by decide +kernel
theorem dX8_doSet_25 : decode cX8_doSet 25 = .ok (.iload 4, 2) := by decide +kernel
theorem dX8_doSet_27 : decode cX8_doSet 27 = .ok (.imul, 1) := by decide +kernel
theorem dX8_doSet_28 : decode cX8_doSet 28 = .ok (.iload_n 2, 1) := by decide +kernel
theorem dX8_doSet_29 : decode cX8_doSet 29 = .ok (.iadd, 1) := by decide +kernel
theorem dX8_doSet_30 : decode cX8_doSet 30 = .ok (.aload_n 0, 1) := by decide +kernel
theorem dX8_doSet_31 : decode cX8_doSet 31 = .ok (.getfield 69, 3) := by decide +kernel
theorem dX8_doSet_34 : decode cX8_doSet 34 = .ok (.ifCond .ne 7, 3) := by decide +kernel
theorem dX8_doSet_37 : decode cX8_doSet 37 = .ok (.lconst 0, 1) := by decide +kernel
theorem dX8_doSet_38 : decode cX8_doSet 38 = .ok (.goto 51, 3) := by decide +kernel
theorem dX8_doSet_41 : decode cX8_doSet 41 = .ok (.aload_n 0, 1) := by decide +kernel
theorem dX8_doSet_42 : decode cX8_doSet 42 = .ok (.getfield 69, 3) := by decide +kernel
theorem dX8_doSet_45 : decode cX8_doSet 45 = .ok (.iconst 1, 1) := by decide +kernel
theorem dX8_doSet_46 : decode cX8_doSet 46 = .ok (.if_icmp .ne 20, 3) := by decide +kernel
theorem dX8_doSet_49 : decode cX8_doSet 49 = .ok (.aload_n 0, 1) := by decide +kernel
theorem dX8_doSet_50 : decode cX8_doSet 50 = .ok (.getfield 20, 3) := by decide +kernel
theorem dX8_doSet_53 : decode cX8_doSet 53 = .ok (.iload 4, 2) := by decide +kernel
theorem dX8_doSet_55 : decode cX8_doSet 55 = .ok (.iaload, 1) := by decide +kernel
theorem dX8_doSet_56 : decode cX8_doSet 56 = .ok (.aload_n 0, 1) := by decide +kernel
theorem dX8_doSet_57 : decode cX8_doSet 57 = .ok (.getfield 78, 3) := by decide +kernel
theorem dX8_doSet_60 : decode cX8_doSet 60 = .ok (.invokestatic 84, 3) := by decide +kernel
theorem dX8_doSet_63 : decode cX8_doSet 63 = .ok (.goto 26, 3) := by decide +kernel
theorem dX8_doSet_66 : decode cX8_doSet 66 = .ok (.aload_n 0, 1) := by decide +kernel
theorem dX8_doSet_67 : decode cX8_doSet 67 = .ok (.getfield 69, 3) := by decide +kernel
theorem dX8_doSet_70 : decode cX8_doSet 70 = .ok (.iconst 2, 1) := by decide +kernel
theorem dX8_doSet_71 : decode cX8_doSet 71 = .ok (.if_icmp .ne 11, 3) := by decide +kernel
theorem dX8_doSet_74 : decode cX8_doSet 74 = .ok (.aload_n 0, 1) := by decide +kernel
theorem dX8_doSet_75 : decode cX8_doSet 75 = .ok (.getfield 72, 3) := by decide +kernel
theorem dX8_doSet_78 : decode cX8_doSet 78 = .ok (.i2l, 1) := by decide +kernel
theorem dX8_doSet_79 : decode cX8_doSet 79 = .ok (.goto 10, 3) := by decide +kernel
theorem dX8_doSet_82 : decode cX8_doSet 82 = .ok (.aload_n 0, 1) := by decide +kernel
theorem dX8_doSet_83 : decode cX8_doSet 83 = .ok (.getfield 72, 3) := by decide +kernel
theorem dX8_doSet_86 : decode cX8_doSet 86 = .ok (.i2l, 1) := by decide +kernel
theorem dX8_doSet_87 : decode cX8_doSet 87 = .ok (.lconst 1, 1) := by decide +kernel
theorem dX8_doSet_88 : decode cX8_doSet 88 = .ok (.ladd, 1) := by decide +kernel
theorem dX8_doSet_89 : decode cX8_doSet 89 = .ok (.lastore, 1) := by decide +kernel
theorem dX8_doSet_90 : decode cX8_doSet 90 = .ok (.iload_n 3, 1) := by decide +kernel
theorem dX8_doSet_91 : decode cX8_doSet 91 = .ok (.ireturn, 1) := by decide +kernel
theorem dX8_set_0 : decode cX8_set 0 = .ok (.iload_n 1, 1) := by decide +kernel
theorem dX8_set_1 : decode cX8_set 1 = .ok (.invokestatic 57, 3) := by decide +kernel
theorem dX8_set_4 : decode cX8_set 4 = .ok (.ifCond .eq 7, 3) := by decide +kernel
theorem dX8_set_7 : decode cX8_set 7 = .ok (.iconst (-1), 1) := by decide +kernel
theorem dX8_set_8 : decode cX8_set 8 = .ok (.goto 14, 3) := by decide +kernel
theorem dX8_set_11 : decode cX8_set 11 = .ok (.aload_n 0, 1) := by decide +kernel
theorem dX8_set_12 : decode cX8_set 12 = .ok (.aload_n 0, 1) := by decide +kernel
theorem dX8_set_13 : decode cX8_set 13 = .ok (.iload_n 1, 1) := by decide +kernel
theorem dX8_set_14 : decode cX8_set 14 = .ok (.iload_n 2, 1) := by decide +kernel
theorem dX8_set_15 : decode cX8_set 15 = .ok (.invokevirtual 127, 3) := by decide +kernel
theorem dX8_set_18 : decode cX8_set 18 = .ok (.iconst 1, 1) := by decide +kernel
theorem dX8_set_19 : decode cX8_set 19 = .ok (.invokevirtual 121, 3) := by decide +kernel
theorem dX8_set_22 : decode cX8_set 22 = .ok (.ireturn, 1) := by decide +kernel
theorem dX8_doRead_0 : decode cX8_doRead 0 = .ok (.aload_n 0, 1) := by decide +kernel
theorem dX8_doRead_1 : decode cX8_doRead 1 = .ok (.iload_n 1, 1) := by decide +kernel
theorem dX8_doRead_2 : decode cX8_doRead 2 = .ok (.iload_n 2, 1) := by decide +kernel
theorem dX8_doRead_3 : decode cX8_doRead 3 = .ok (.iload_n 3, 1) := by decide +kernel
theorem dX8_doRead_4 : decode cX8_doRead 4 = .ok (.iload 4, 2) := by decide +kernel
theorem dX8_doRead_6 : decode cX8_doRead 6 = .ok (.invokevirtual 130, 3) := by decide +kernel
theorem dX8_doRead_9 : decode cX8_doRead 9 = .ok (.istore 5, 2) := by decide +kernel
theorem dX8_doRead_11 : decode cX8_doRead 11 = .ok (.iload 5, 2) := by decide +kernel
theorem dX8_doRead_13 : decode cX8_doRead 13 = .ok (.ifCond .ne 25, 3) := by decide +kernel
theorem dX8_doRead_16 : decode cX8_doRead 16 = .ok (.aload_n 0, 1) := by decide +kernel
theorem dX8_doRead_17 : decode cX8_doRead 17 = .ok (.iload 4, 2) := by decide +kernel
theorem dX8_doRead_19 : decode cX8_doRead 19 = .ok (.iload 4, 2) := by decide +kernel
theorem dX8_doRead_21 : decode cX8_doRead 21 = .ok (.aload_n 0, 1) := by decide +kernel
theorem dX8_doRead_22 : decode cX8_doRead 22 = .ok (.getfield 27, 3) := by decide +kernel
theorem dX8_doRead_25 : decode cX8_doRead 25 = .ok (.bipush 16, 2) := by decide +kernel
theorem dX8_doRead_27 : decode cX8_doRead 27 = .ok (.iload_n 2, 1) := by decide +kernel
theorem dX8_doRead_28 : decode cX8_doRead 28 = .ok (.imul, 1) := by decide +kernel
theorem dX8_doRead_29 : decode cX8_doRead 29 = .ok (.iload_n 3, 1) := by decide +kernel
theorem dX8_doRead_30 : decode cX8_doRead 30 = .ok (.iadd, 1) := by decide +kernel
theorem dX8_doRead_31 : decode cX8_doRead 31 = .ok (.laload, 1) := by decide +kernel
theorem dX8_doRead_32 : decode cX8_doRead 32 = .ok (.invokestatic 84, 3) := by decide +kernel
theorem dX8_doRead_35 : decode cX8_doRead 35 = .ok (.invokevirtual 88, 3) := by decide +kernel
theorem dX8_doRead_38 : decode cX8_doRead 38 = .ok (.iload 5, 2) := by decide +kernel
theorem dX8_doRead_40 : decode cX8_doRead 40 = .ok (.ireturn, 1) := by decide +kernel
theorem dX8_read_0 : decode cX8_read 0 = .ok (.iload_n 1, 1) := by decide +kernel
theorem dX8_read_1 : decode cX8_read 1 = .ok (.invokestatic 57, 3) := by decide +kernel
theorem dX8_read_4 : decode cX8_read 4 = .ok (.ifCond .eq 5, 3) := by decide +kernel
theorem dX8_read_7 : decode cX8_read 7 = .ok (.iconst (-1), 1) := by decide +kernel
theorem dX8_read_8 : decode cX8_read 8 = .ok (.ireturn, 1) := by decide +kernel
theorem dX8_read_9 : decode cX8_read 9 = .ok (.iload_n 3, 1) := by decide +kernel
theorem dX8_read_10 : decode cX8_read 10 = .ok (.i2l, 1) := by decide +kernel
theorem dX8_read_11 : decode cX8_read 11 = .ok (.lconst 0, 1) := by decide +kernel
theorem dX8_read_12 : decode cX8_read 12 = .ok (.ldc2_w 82, 3) := by decide +kernel
theorem dX8_read_15 : decode cX8_read 15 = .ok (.invokestatic 42, 3) := by decide +kernel
theorem dX8_read_18 : decode cX8_read 18 = .ok (.ifCond .eq 8, 3) := by decide +kernel
theorem dX8_read_21 : decode cX8_read 21 = .ok (.bipush (-2), 2) := by decide +kernel
theorem dX8_read_23 : decode cX8_read 23 = .ok (.goto 26, 3) := by decide +kernel
theorem dX8_read_26 : decode cX8_read 26 = .ok (.aload_n 0, 1) := by decide +kernel
theorem dX8_read_27 : decode cX8_read 27 = .ok (.aload_n 0, 1) := by decide +kernel
theorem dX8_read_28 : decode cX8_read 28 = .ok (.aload_n 0, 1) := by decide +kernel
theorem dX8_read_29 : decode cX8_read 29 = .ok (.getfield 7, 3) := by decide +kernel
theorem dX8_read_32 : decode cX8_read 32 = .ok (.iload_n 1, 1) := by decide +kernel
theorem dX8_read_33 : decode cX8_read 33 = .ok (.iaload, 1) := by decide +kernel
theorem dX8_read_34 : decode cX8_read 34 = .ok (.aload_n 0, 1) := by decide +kernel
theorem dX8_read_35 : decode cX8_read 35 = .ok (.getfield 13, 3) := by decide +kernel
theorem dX8_read_38 : decode cX8_read 38 = .ok (.iload_n 1, 1) := by decide +kernel
theorem dX8_read_39 : decode cX8_read 39 = .ok (.iaload, 1) := by decide +kernel
theorem dX8_read_40 : decode cX8_read 40 = .ok (.iload_n 2, 1) := by decide +kernel
theorem dX8_read_41 : decode cX8_read 41 = .ok (.iload_n 3, 1) := by decide +kernel
theorem dX8_read_42 : decode cX8_read 42 = .ok (.invokevirtual 134, 3) := by decide +kernel
theorem dX8_read_45 : decode cX8_read 45 = .ok (.iconst 1, 1) := by decide +kernel
theorem dX8_read_46 : decode cX8_read 46 = .ok (.invokevirtual 121, 3) := by decide +kernel
theorem dX8_read_49 : decode cX8_read 49 = .ok (.ireturn, 1) := by decide +kernel
theorem dX8_doWrite_0 : decode cX8_doWrite 0 = .ok (.aload_n 0, 1) := by decide +kernel
theorem dX8_doWrite_1 : decode cX8_doWrite 1 = .ok (.iload_n 1, 1) := by decide +kernel
theorem dX8_doWrite_2 : decode cX8_doWrite 2 = .ok (.iload_n 2, 1) := by decide +kernel
theorem dX8_doWrite_3 : decode cX8_doWrite 3 = .ok (.iload_n 3, 1) := by decide +kernel
theorem dX8_doWrite_4 : decode cX8_doWrite 4 = .ok (.iload 4, 2) := by decide +kernel
theorem dX8_doWrite_6 : decode cX8_doWrite 6 = .ok (.invokevirtual 137, 3) := by decide +kernel
theorem dX8_doWrite_9 : decode cX8_doWrite 9 = .ok (.istore 7, 2) := by decide +kernel
theorem dX8_doWrite_11 : decode cX8_doWrite 11 = .ok (.iload 7, 2) := by decide +kernel
theorem dX8_doWrite_13 : decode cX8_doWrite 13 = .ok (.ifCond .ne 30, 3) := by decide +kernel
theorem dX8_doWrite_16 : decode cX8_doWrite 16 = .ok (.aload_n 0, 1) := by decide +kernel
theorem dX8_doWrite_17 : decode cX8_doWrite 17 = .ok (.getfield 27, 3) := by decide +kernel
theorem dX8_doWrite_20 : decode cX8_doWrite 20 = .ok (.bipush 16, 2) := by decide +kernel
theorem dX8_doWrite_22 : decode cX8_doWrite 22 = .ok (.iload_n 2, 1) := by decide +kernel
theorem dX8_doWrite_23 : decode cX8_doWrite 23 = .ok (.imul, 1) := by decide +kernel
theorem dX8_doWrite_24 : decode cX8_doWrite 24 = .ok (.iload_n 3, 1) := by decide +kernel
theorem dX8_doWrite_25 : decode cX8_doWrite 25 = .ok (.iadd, 1) := by decide +kernel
theorem dX8_doWrite_26 : decode cX8_doWrite 26 = .ok (.aload_n 0, 1) := by decide +kernel
theorem dX8_doWrite_27 : decode cX8_doWrite 27 = .ok (.getfield 20, 3) := by decide +kernel
theorem dX8_doWrite_30 : decode cX8_doWrite 30 = .ok (.iload_n 2, 1) := by decide +kernel
theorem dX8_doWrite_31 : decode cX8_doWrite 31 = .ok (.iaload, 1) := by decide +kernel
theorem dX8_doWrite_32 : decode cX8_doWrite 32 = .ok (.iload 4, 2) := by decide +kernel
theorem dX8_doWrite_34 : decode cX8_doWrite 34 = .ok (.lload 5, 2) := by decide +kernel
theorem dX8_doWrite_36 : decode cX8_doWrite 36 = .ok (.invokestatic 84, 3) := by decide +kernel
theorem dX8_doWrite_39 : decode cX8_doWrite 39 = .ok (.invokestatic 84, 3) := by decide +kernel
theorem dX8_doWrite_42 : decode cX8_doWrite 42 = .ok (.lastore, 1) := by decide +kernel
theorem dX8_doWrite_43 : decode cX8_doWrite 43 = .ok (.iload 7, 2) := by decide +kernel
theorem dX8_doWrite_45 : decode cX8_doWrite 45 = .ok (.ireturn, 1) := by decide +kernel
theorem dX8_write_0 : decode cX8_write 0 = .ok (.iload_n 1, 1) := by decide +kernel
theorem dX8_write_1 : decode cX8_write 1 = .ok (.invokestatic 57, 3) := by decide +kernel
theorem dX8_write_4 : decode cX8_write 4 = .ok (.ifCond .eq 5, 3) := by decide +kernel
theorem dX8_write_7 : decode cX8_write 7 = .ok (.iconst (-1), 1) := by decide +kernel
theorem dX8_write_8 : decode cX8_write 8 = .ok (.ireturn, 1) := by decide +kernel
theorem dX8_write_9 : decode cX8_write 9 = .ok (.iload_n 3, 1) := by decide +kernel
theorem dX8_write_10 : decode cX8_write 10 = .ok (.i2l, 1) := by decide +kernel
theorem dX8_write_11 : decode cX8_write 11 = .ok (.lconst 0, 1) := by decide +kernel
theorem dX8_write_12 : decode cX8_write 12 = .ok (.ldc2_w 82, 3) := by decide +kernel
theorem dX8_write_15 : decode cX8_write 15 = .ok (.invokestatic 42, 3) := by decide +kernel
theorem dX8_write_18 : decode cX8_write 18 = .ok (.ifCond .eq 6, 3) := by decide +kernel
theorem dX8_write_21 : decode cX8_write 21 = .ok (.bipush (-2), 2) := by decide +kernel
theorem dX8_write_23 : decode cX8_write 23 = .ok (.ireturn, 1) := by decide +kernel
theorem dX8_write_24 : decode cX8_write 24 = .ok (.aload_n 0, 1) := by decide +kernel
theorem dX8_write_25 : decode cX8_write 25 = .ok (.getfield 69, 3) := by decide +kernel
theorem dX8_write_28 : decode cX8_write 28 = .ok (.iconst 1, 1) := by decide +kernel
theorem dX8_write_29 : decode cX8_write 29 = .ok (.if_icmp .eq 8, 3) := by decide +kernel
theorem dX8_write_32 : decode cX8_write 32 = .ok (.bipush (-3), 2) := by decide +kernel
theorem dX8_write_34 : decode cX8_write 34 = .ok (.goto 30, 3) := by decide +kernel
theorem dX8_write_37 : decode cX8_write 37 = .ok (.aload_n 0, 1) := by decide +kernel
theorem dX8_write_38 : decode cX8_write 38 = .ok (.aload_n 0, 1) := by decide +kernel
theorem dX8_write_39 : decode cX8_write 39 = .ok (.aload_n 0, 1) := by decide +kernel
theorem dX8_write_40 : decode cX8_write 40 = .ok (.getfield 7, 3) := by decide +kernel
theorem dX8_write_43 : decode cX8_write 43 = .ok (.iload_n 1, 1) := by decide +kernel
theorem dX8_write_44 : decode cX8_write 44 = .ok (.iaload, 1) := by decide +kernel
theorem dX8_write_45 : decode cX8_write 45 = .ok (.aload_n 0, 1) := by decide +kernel
theorem dX8_write_46 : decode cX8_write 46 = .ok (.getfield 13, 3) := by decide +kernel
theorem dX8_write_49 : decode cX8_write 49 = .ok (.iload_n 1, 1) := by decide +kernel
theorem dX8_write_50 : decode cX8_write 50 = .ok (.iaload, 1) := by decide +kernel
theorem dX8_write_51 : decode cX8_write 51 = .ok (.iload_n 2, 1) := by decide +kernel
theorem dX8_write_52 : decode cX8_write 52 = .ok (.iload_n 3, 1) := by decide +kernel
theorem dX8_write_53 : decode cX8_write 53 = .ok (.aload_n 0, 1) := by decide +kernel
theorem dX8_write_54 : decode cX8_write 54 = .ok (.getfield 78, 3) := by decide +kernel
theorem dX8_write_57 : decode cX8_write 57 = .ok (.invokevirtual 140, 3) := by decide +kernel
theorem dX8_write_60 : decode cX8_write 60 = .ok (.iconst 1, 1) := by decide +kernel
theorem dX8_write_61 : decode cX8_write 61 = .ok (.invokevirtual 121, 3) := by decide +kernel
theorem dX8_write_64 : decode cX8_write 64 = .ok (.ireturn, 1) := by decide +kernel
theorem dX8_sizeFault_0 : decode cX8_sizeFault 0 = .ok (.aload_n 0, 1) := by decide +kernel
theorem dX8_sizeFault_1 : decode cX8_sizeFault 1 = .ok (.getfield 7, 3) := by decide +kernel
theorem dX8_sizeFault_4 : decode cX8_sizeFault 4 = .ok (.iload_n 1, 1) := by decide +kernel
theorem dX8_sizeFault_5 : decode cX8_sizeFault 5 = .ok (.iaload, 1) := by decide +kernel
theorem dX8_sizeFault_6 : decode cX8_sizeFault 6 = .ok (.ifCond .ne 7, 3) := by decide +kernel
theorem dX8_sizeFault_9 : decode cX8_sizeFault 9 = .ok (.iconst 1, 1) := by decide +kernel
theorem dX8_sizeFault_10 : decode cX8_sizeFault 10 = .ok (.goto 18, 3) := by decide +kernel
theorem dX8_sizeFault_13 : decode cX8_sizeFault 13 = .ok (.aload_n 0, 1) := by decide +kernel
theorem dX8_sizeFault_14 : decode cX8_sizeFault 14 = .ok (.getfield 7, 3) := by decide +kernel
theorem dX8_sizeFault_17 : decode cX8_sizeFault 17 = .ok (.iload_n 1, 1) := by decide +kernel
theorem dX8_sizeFault_18 : decode cX8_sizeFault 18 = .ok (.iaload, 1) := by decide +kernel
theorem dX8_sizeFault_19 : decode cX8_sizeFault 19 = .ok (.iconst 3, 1) := by decide +kernel
theorem dX8_sizeFault_20 : decode cX8_sizeFault 20 = .ok (.if_icmp .eq 7, 3) := by decide +kernel
theorem dX8_sizeFault_23 : decode cX8_sizeFault 23 = .ok (.iconst 2, 1) := by decide +kernel
theorem dX8_sizeFault_24 : decode cX8_sizeFault 24 = .ok (.goto 4, 3) := by decide +kernel
theorem dX8_sizeFault_27 : decode cX8_sizeFault 27 = .ok (.iconst 0, 1) := by decide +kernel
theorem dX8_sizeFault_28 : decode cX8_sizeFault 28 = .ok (.ireturn, 1) := by decide +kernel
theorem dX8_size_0 : decode cX8_size 0 = .ok (.iload_n 1, 1) := by decide +kernel
theorem dX8_size_1 : decode cX8_size 1 = .ok (.invokestatic 57, 3) := by decide +kernel
theorem dX8_size_4 : decode cX8_size 4 = .ok (.ifCond .eq 5, 3) := by decide +kernel
theorem dX8_size_7 : decode cX8_size 7 = .ok (.iconst (-1), 1) := by decide +kernel
theorem dX8_size_8 : decode cX8_size 8 = .ok (.ireturn, 1) := by decide +kernel
theorem dX8_size_9 : decode cX8_size 9 = .ok (.aload_n 0, 1) := by decide +kernel
theorem dX8_size_10 : decode cX8_size 10 = .ok (.iload_n 1, 1) := by decide +kernel
theorem dX8_size_11 : decode cX8_size 11 = .ok (.invokevirtual 144, 3) := by decide +kernel
theorem dX8_size_14 : decode cX8_size 14 = .ok (.istore_n 2, 1) := by decide +kernel
theorem dX8_size_15 : decode cX8_size 15 = .ok (.aload_n 0, 1) := by decide +kernel
theorem dX8_size_16 : decode cX8_size 16 = .ok (.iload_n 2, 1) := by decide +kernel
theorem dX8_size_17 : decode cX8_size 17 = .ok (.iload_n 2, 1) := by decide +kernel
theorem dX8_size_18 : decode cX8_size 18 = .ok (.ifCond .le 7, 3) := by decide +kernel
theorem dX8_size_21 : decode cX8_size 21 = .ok (.iconst 0, 1) := by decide +kernel
theorem dX8_size_22 : decode cX8_size 22 = .ok (.goto 14, 3) := by decide +kernel
theorem dX8_size_25 : decode cX8_size 25 = .ok (.aload_n 0, 1) := by decide +kernel
theorem dX8_size_26 : decode cX8_size 26 = .ok (.getfield 23, 3) := by decide +kernel
theorem dX8_size_29 : decode cX8_size 29 = .ok (.aload_n 0, 1) := by decide +kernel
theorem dX8_size_30 : decode cX8_size 30 = .ok (.getfield 13, 3) := by decide +kernel
theorem dX8_size_33 : decode cX8_size 33 = .ok (.iload_n 1, 1) := by decide +kernel
theorem dX8_size_34 : decode cX8_size 34 = .ok (.iaload, 1) := by decide +kernel
theorem dX8_size_35 : decode cX8_size 35 = .ok (.iaload, 1) := by decide +kernel
theorem dX8_size_36 : decode cX8_size 36 = .ok (.invokevirtual 121, 3) := by decide +kernel
theorem dX8_size_39 : decode cX8_size 39 = .ok (.ireturn, 1) := by decide +kernel
theorem dX8_finds_0 : decode cX8_finds 0 = .ok (.aload_n 0, 1) := by decide +kernel
theorem dX8_finds_1 : decode cX8_finds 1 = .ok (.aload_n 0, 1) := by decide +kernel
theorem dX8_finds_2 : decode cX8_finds 2 = .ok (.getfield 7, 3) := by decide +kernel
theorem dX8_finds_5 : decode cX8_finds 5 = .ok (.iload_n 1, 1) := by decide +kernel
theorem dX8_finds_6 : decode cX8_finds 6 = .ok (.iaload, 1) := by decide +kernel
theorem dX8_finds_7 : decode cX8_finds 7 = .ok (.aload_n 0, 1) := by decide +kernel
theorem dX8_finds_8 : decode cX8_finds 8 = .ok (.getfield 13, 3) := by decide +kernel
theorem dX8_finds_11 : decode cX8_finds 11 = .ok (.iload_n 1, 1) := by decide +kernel
theorem dX8_finds_12 : decode cX8_finds 12 = .ok (.iaload, 1) := by decide +kernel
theorem dX8_finds_13 : decode cX8_finds 13 = .ok (.iload_n 2, 1) := by decide +kernel
theorem dX8_finds_14 : decode cX8_finds 14 = .ok (.invokevirtual 107, 3) := by decide +kernel
theorem dX8_finds_17 : decode cX8_finds 17 = .ok (.istore_n 3, 1) := by decide +kernel
theorem dX8_finds_18 : decode cX8_finds 18 = .ok (.iload_n 3, 1) := by decide +kernel
theorem dX8_finds_19 : decode cX8_finds 19 = .ok (.ifCond .ne 94, 3) := by decide +kernel
theorem dX8_finds_22 : decode cX8_finds 22 = .ok (.aload_n 0, 1) := by decide +kernel
theorem dX8_finds_23 : decode cX8_finds 23 = .ok (.getfield 13, 3) := by decide +kernel
theorem dX8_finds_26 : decode cX8_finds 26 = .ok (.iload_n 1, 1) := by decide +kernel
theorem dX8_finds_27 : decode cX8_finds 27 = .ok (.iaload, 1) := by decide +kernel
theorem dX8_finds_28 : decode cX8_finds 28 = .ok (.istore 4, 2) := by decide +kernel
theorem dX8_finds_30 : decode cX8_finds 30 = .ok (.aload_n 0, 1) := by decide +kernel
theorem dX8_finds_31 : decode cX8_finds 31 = .ok (.getfield 27, 3) := by decide +kernel
theorem dX8_finds_34 : decode cX8_finds 34 = .ok (.bipush 16, 2) := by decide +kernel
theorem dX8_finds_36 : decode cX8_finds 36 = .ok (.iload 4, 2) := by decide +kernel
theorem dX8_finds_38 : decode cX8_finds 38 = .ok (.imul, 1) := by decide +kernel
theorem dX8_finds_39 : decode cX8_finds 39 = .ok (.iload_n 2, 1) := by decide +kernel
theorem dX8_finds_40 : decode cX8_finds 40 = .ok (.iadd, 1) := by decide +kernel
theorem dX8_finds_41 : decode cX8_finds 41 = .ok (.laload, 1) := by decide +kernel
theorem dX8_finds_42 : decode cX8_finds 42 = .ok (.lstore 5, 2) := by decide +kernel
theorem dX8_finds_44 : decode cX8_finds 44 = .ok (.aload_n 0, 1) := by decide +kernel
theorem dX8_finds_45 : decode cX8_finds 45 = .ok (.aload_n 0, 1) := by decide +kernel
theorem dX8_finds_46 : decode cX8_finds 46 = .ok (.getfield 20, 3) := by decide +kernel
theorem dX8_finds_49 : decode cX8_finds 49 = .ok (.iload 4, 2) := by decide +kernel
theorem dX8_finds_51 : decode cX8_finds 51 = .ok (.iaload, 1) := by decide +kernel
theorem dX8_finds_52 : decode cX8_finds 52 = .ok (.bipush 8, 2) := by decide +kernel
theorem dX8_finds_54 : decode cX8_finds 54 = .ok (.if_icmp .ge 7, 3) := by decide +kernel
theorem dX8_finds_57 : decode cX8_finds 57 = .ok (.iconst 1, 1) := by decide +kernel
theorem dX8_finds_58 : decode cX8_finds 58 = .ok (.goto 31, 3) := by decide +kernel
theorem dX8_finds_61 : decode cX8_finds 61 = .ok (.lload 5, 2) := by decide +kernel
theorem dX8_finds_63 : decode cX8_finds 63 = .ok (.lconst 0, 1) := by decide +kernel
theorem dX8_finds_64 : decode cX8_finds 64 = .ok (.lcmp, 1) := by decide +kernel
theorem dX8_finds_65 : decode cX8_finds 65 = .ok (.ifCond .ne 7, 3) := by decide +kernel
theorem dX8_finds_68 : decode cX8_finds 68 = .ok (.iconst 0, 1) := by decide +kernel
theorem dX8_finds_69 : decode cX8_finds 69 = .ok (.goto 20, 3) := by decide +kernel
theorem dX8_finds_72 : decode cX8_finds 72 = .ok (.aload_n 0, 1) := by decide +kernel
theorem dX8_finds_73 : decode cX8_finds 73 = .ok (.getfield 20, 3) := by decide +kernel
theorem dX8_finds_76 : decode cX8_finds 76 = .ok (.iload 4, 2) := by decide +kernel
theorem dX8_finds_78 : decode cX8_finds 78 = .ok (.iaload, 1) := by decide +kernel
theorem dX8_finds_79 : decode cX8_finds 79 = .ok (.bipush 10, 2) := by decide +kernel
theorem dX8_finds_81 : decode cX8_finds 81 = .ok (.if_icmp .ne 7, 3) := by decide +kernel
theorem dX8_finds_84 : decode cX8_finds 84 = .ok (.iconst 3, 1) := by decide +kernel
theorem dX8_finds_85 : decode cX8_finds 85 = .ok (.goto 4, 3) := by decide +kernel
theorem dX8_finds_88 : decode cX8_finds 88 = .ok (.iconst 2, 1) := by decide +kernel
theorem dX8_finds_89 : decode cX8_finds 89 = .ok (.putfield 147, 3) := by decide +kernel
theorem dX8_finds_92 : decode cX8_finds 92 = .ok (.aload_n 0, 1) := by decide +kernel
theorem dX8_finds_93 : decode cX8_finds 93 = .ok (.aload_n 0, 1) := by decide +kernel
theorem dX8_finds_94 : decode cX8_finds 94 = .ok (.getfield 147, 3) := by decide +kernel
theorem dX8_finds_97 : decode cX8_finds 97 = .ok (.iconst 3, 1) := by decide +kernel
theorem dX8_finds_98 : decode cX8_finds 98 = .ok (.if_icmp .ne 11, 3) := by decide +kernel
theorem dX8_finds_101 : decode cX8_finds 101 = .ok (.lload 5, 2) := by decide +kernel
theorem dX8_finds_103 : decode cX8_finds 103 = .ok (.l2i, 1) := by decide +kernel
theorem dX8_finds_104 : decode cX8_finds 104 = .ok (.iconst 1, 1) := by decide +kernel
theorem dX8_finds_105 : decode cX8_finds 105 = .ok (.isub, 1) := by decide +kernel
theorem dX8_finds_106 : decode cX8_finds 106 = .ok (.goto 4, 3) := by decide +kernel
theorem dX8_finds_109 : decode cX8_finds 109 = .ok (.iconst 0, 1) := by decide +kernel
theorem dX8_finds_110 : decode cX8_finds 110 = .ok (.putfield 150, 3) := by decide +kernel
theorem dX8_finds_113 : decode cX8_finds 113 = .ok (.iload_n 3, 1) := by decide +kernel
theorem dX8_finds_114 : decode cX8_finds 114 = .ok (.ireturn, 1) := by decide +kernel
theorem dX8_doWithin_0 : decode cX8_doWithin 0 = .ok (.aload_n 0, 1) := by decide +kernel
theorem dX8_doWithin_1 : decode cX8_doWithin 1 = .ok (.iload_n 1, 1) := by decide +kernel
theorem dX8_doWithin_2 : decode cX8_doWithin 2 = .ok (.iload_n 2, 1) := by decide +kernel
theorem dX8_doWithin_3 : decode cX8_doWithin 3 = .ok (.invokevirtual 153, 3) := by decide +kernel
theorem dX8_doWithin_6 : decode cX8_doWithin 6 = .ok (.istore 4, 2) := by decide +kernel
theorem dX8_doWithin_8 : decode cX8_doWithin 8 = .ok (.iload 4, 2) := by decide +kernel
theorem dX8_doWithin_10 : decode cX8_doWithin 10 = .ok (.ifCond .le 8, 3) := by decide +kernel
theorem dX8_doWithin_13 : decode cX8_doWithin 13 = .ok (.iload 4, 2) := by decide +kernel
theorem dX8_doWithin_15 : decode cX8_doWithin 15 = .ok (.goto 17, 3) := by decide +kernel
theorem dX8_doWithin_18 : decode cX8_doWithin 18 = .ok (.aload_n 0, 1) := by decide +kernel
theorem dX8_doWithin_19 : decode cX8_doWithin 19 = .ok (.aload_n 0, 1) := by decide +kernel
theorem dX8_doWithin_20 : decode cX8_doWithin 20 = .ok (.getfield 147, 3) := by decide +kernel
theorem dX8_doWithin_23 : decode cX8_doWithin 23 = .ok (.aload_n 0, 1) := by decide +kernel
theorem dX8_doWithin_24 : decode cX8_doWithin 24 = .ok (.getfield 150, 3) := by decide +kernel
theorem dX8_doWithin_27 : decode cX8_doWithin 27 = .ok (.iload_n 3, 1) := by decide +kernel
theorem dX8_doWithin_28 : decode cX8_doWithin 28 = .ok (.iconst 5, 1) := by decide +kernel
theorem dX8_doWithin_29 : decode cX8_doWithin 29 = .ok (.invokevirtual 134, 3) := by decide +kernel
theorem dX8_doWithin_32 : decode cX8_doWithin 32 = .ok (.ireturn, 1) := by decide +kernel
theorem dX8_within_0 : decode cX8_within 0 = .ok (.iload_n 1, 1) := by decide +kernel
theorem dX8_within_1 : decode cX8_within 1 = .ok (.invokestatic 57, 3) := by decide +kernel
theorem dX8_within_4 : decode cX8_within 4 = .ok (.ifCond .eq 7, 3) := by decide +kernel
theorem dX8_within_7 : decode cX8_within 7 = .ok (.iconst (-1), 1) := by decide +kernel
theorem dX8_within_8 : decode cX8_within 8 = .ok (.goto 15, 3) := by decide +kernel
theorem dX8_within_11 : decode cX8_within 11 = .ok (.aload_n 0, 1) := by decide +kernel
theorem dX8_within_12 : decode cX8_within 12 = .ok (.aload_n 0, 1) := by decide +kernel
theorem dX8_within_13 : decode cX8_within 13 = .ok (.iload_n 1, 1) := by decide +kernel
theorem dX8_within_14 : decode cX8_within 14 = .ok (.iload_n 2, 1) := by decide +kernel
theorem dX8_within_15 : decode cX8_within 15 = .ok (.iload_n 3, 1) := by decide +kernel
theorem dX8_within_16 : decode cX8_within 16 = .ok (.invokevirtual 156, 3) := by decide +kernel
theorem dX8_within_19 : decode cX8_within 19 = .ok (.iconst 1, 1) := by decide +kernel
theorem dX8_within_20 : decode cX8_within 20 = .ok (.invokevirtual 121, 3) := by decide +kernel
theorem dX8_within_23 : decode cX8_within 23 = .ok (.ireturn, 1) := by decide +kernel
theorem dX8_into_0 : decode cX8_into 0 = .ok (.iload_n 1, 1) := by decide +kernel
theorem dX8_into_1 : decode cX8_into 1 = .ok (.invokestatic 57, 3) := by decide +kernel
theorem dX8_into_4 : decode cX8_into 4 = .ok (.ifCond .eq 5, 3) := by decide +kernel
theorem dX8_into_7 : decode cX8_into 7 = .ok (.iconst (-1), 1) := by decide +kernel
theorem dX8_into_8 : decode cX8_into 8 = .ok (.ireturn, 1) := by decide +kernel
theorem dX8_into_9 : decode cX8_into 9 = .ok (.aload_n 0, 1) := by decide +kernel
theorem dX8_into_10 : decode cX8_into 10 = .ok (.iload_n 1, 1) := by decide +kernel
theorem dX8_into_11 : decode cX8_into 11 = .ok (.iload_n 2, 1) := by decide +kernel
theorem dX8_into_12 : decode cX8_into 12 = .ok (.invokevirtual 153, 3) := by decide +kernel
theorem dX8_into_15 : decode cX8_into 15 = .ok (.istore 5, 2) := by decide +kernel
theorem dX8_into_17 : decode cX8_into 17 = .ok (.iload 5, 2) := by decide +kernel
theorem dX8_into_19 : decode cX8_into 19 = .ok (.ifCond .le 8, 3) := by decide +kernel
theorem dX8_into_22 : decode cX8_into 22 = .ok (.iload 5, 2) := by decide +kernel
theorem dX8_into_24 : decode cX8_into 24 = .ok (.goto 20, 3) := by decide +kernel
theorem dX8_into_27 : decode cX8_into 27 = .ok (.aload_n 0, 1) := by decide +kernel
theorem dX8_into_28 : decode cX8_into 28 = .ok (.aload_n 0, 1) := by decide +kernel
theorem dX8_into_29 : decode cX8_into 29 = .ok (.getfield 147, 3) := by decide +kernel
theorem dX8_into_32 : decode cX8_into 32 = .ok (.aload_n 0, 1) := by decide +kernel
theorem dX8_into_33 : decode cX8_into 33 = .ok (.getfield 150, 3) := by decide +kernel
theorem dX8_into_36 : decode cX8_into 36 = .ok (.iload_n 3, 1) := by decide +kernel
theorem dX8_into_37 : decode cX8_into 37 = .ok (.iconst 4, 1) := by decide +kernel
theorem dX8_into_38 : decode cX8_into 38 = .ok (.iload 4, 2) := by decide +kernel
theorem dX8_into_40 : decode cX8_into 40 = .ok (.i2l, 1) := by decide +kernel
theorem dX8_into_41 : decode cX8_into 41 = .ok (.invokevirtual 140, 3) := by decide +kernel
theorem dX8_into_44 : decode cX8_into 44 = .ok (.istore 5, 2) := by decide +kernel
theorem dX8_into_46 : decode cX8_into 46 = .ok (.aload_n 0, 1) := by decide +kernel
theorem dX8_into_47 : decode cX8_into 47 = .ok (.iload 5, 2) := by decide +kernel
theorem dX8_into_49 : decode cX8_into 49 = .ok (.iconst 1, 1) := by decide +kernel
theorem dX8_into_50 : decode cX8_into 50 = .ok (.invokevirtual 121, 3) := by decide +kernel
theorem dX8_into_53 : decode cX8_into 53 = .ok (.ireturn, 1) := by decide +kernel
theorem dX8_pass_0 : decode cX8_pass 0 = .ok (.iload_n 1, 1) := by decide +kernel
theorem dX8_pass_1 : decode cX8_pass 1 = .ok (.invokestatic 57, 3) := by decide +kernel
theorem dX8_pass_4 : decode cX8_pass 4 = .ok (.ifCond .ne 10, 3) := by decide +kernel
theorem dX8_pass_7 : decode cX8_pass 7 = .ok (.iload_n 2, 1) := by decide +kernel
theorem dX8_pass_8 : decode cX8_pass 8 = .ok (.invokestatic 57, 3) := by decide +kernel
theorem dX8_pass_11 : decode cX8_pass 11 = .ok (.ifCond .eq 5, 3) := by decide +kernel
theorem dX8_pass_14 : decode cX8_pass 14 = .ok (.iconst (-1), 1) := by decide +kernel
theorem dX8_pass_15 : decode cX8_pass 15 = .ok (.ireturn, 1) := by decide +kernel
theorem dX8_pass_16 : decode cX8_pass 16 = .ok (.iload_n 3, 1) := by decide +kernel
theorem dX8_pass_17 : decode cX8_pass 17 = .ok (.i2l, 1) := by decide +kernel
theorem dX8_pass_18 : decode cX8_pass 18 = .ok (.lconst 0, 1) := by decide +kernel
theorem dX8_pass_19 : decode cX8_pass 19 = .ok (.ldc2_w 82, 3) := by decide +kernel
theorem dX8_pass_22 : decode cX8_pass 22 = .ok (.invokestatic 42, 3) := by decide +kernel
theorem dX8_pass_25 : decode cX8_pass 25 = .ok (.ifCond .eq 6, 3) := by decide +kernel
theorem dX8_pass_28 : decode cX8_pass 28 = .ok (.bipush (-2), 2) := by decide +kernel
theorem dX8_pass_30 : decode cX8_pass 30 = .ok (.ireturn, 1) := by decide +kernel
theorem dX8_pass_31 : decode cX8_pass 31 = .ok (.aload_n 0, 1) := by decide +kernel
theorem dX8_pass_32 : decode cX8_pass 32 = .ok (.iload_n 1, 1) := by decide +kernel
theorem dX8_pass_33 : decode cX8_pass 33 = .ok (.invokevirtual 144, 3) := by decide +kernel
theorem dX8_pass_36 : decode cX8_pass 36 = .ok (.istore 4, 2) := by decide +kernel
theorem dX8_pass_38 : decode cX8_pass 38 = .ok (.iload 4, 2) := by decide +kernel
theorem dX8_pass_40 : decode cX8_pass 40 = .ok (.ifCond .le 11, 3) := by decide +kernel
theorem dX8_pass_43 : decode cX8_pass 43 = .ok (.aload_n 0, 1) := by decide +kernel
theorem dX8_pass_44 : decode cX8_pass 44 = .ok (.iload 4, 2) := by decide +kernel
theorem dX8_pass_46 : decode cX8_pass 46 = .ok (.iconst 0, 1) := by decide +kernel
theorem dX8_pass_47 : decode cX8_pass 47 = .ok (.invokevirtual 121, 3) := by decide +kernel
theorem dX8_pass_50 : decode cX8_pass 50 = .ok (.ireturn, 1) := by decide +kernel
theorem dX8_pass_51 : decode cX8_pass 51 = .ok (.aload_n 0, 1) := by decide +kernel
theorem dX8_pass_52 : decode cX8_pass 52 = .ok (.getfield 13, 3) := by decide +kernel
theorem dX8_pass_55 : decode cX8_pass 55 = .ok (.iload_n 1, 1) := by decide +kernel
theorem dX8_pass_56 : decode cX8_pass 56 = .ok (.iaload, 1) := by decide +kernel
theorem dX8_pass_57 : decode cX8_pass 57 = .ok (.istore 5, 2) := by decide +kernel
theorem dX8_pass_59 : decode cX8_pass 59 = .ok (.iconst 0, 1) := by decide +kernel
theorem dX8_pass_60 : decode cX8_pass 60 = .ok (.istore 6, 2) := by decide +kernel
theorem dX8_pass_62 : decode cX8_pass 62 = .ok (.iload 6, 2) := by decide +kernel
theorem dX8_pass_64 : decode cX8_pass 64 = .ok (.aload_n 0, 1) := by decide +kernel
theorem dX8_pass_65 : decode cX8_pass 65 = .ok (.getfield 23, 3) := by decide +kernel
theorem dX8_pass_68 : decode cX8_pass 68 = .ok (.iload 5, 2) := by decide +kernel
theorem dX8_pass_70 : decode cX8_pass 70 = .ok (.iaload, 1) := by decide +kernel
theorem dX8_pass_71 : decode cX8_pass 71 = .ok (.if_icmp .ge 81, 3) := by decide +kernel
theorem dX8_pass_74 : decode cX8_pass 74 = .ok (.aload_n 0, 1) := by decide +kernel
theorem dX8_pass_75 : decode cX8_pass 75 = .ok (.iconst 3, 1) := by decide +kernel
theorem dX8_pass_76 : decode cX8_pass 76 = .ok (.iload 5, 2) := by decide +kernel
theorem dX8_pass_78 : decode cX8_pass 78 = .ok (.iload 6, 2) := by decide +kernel
theorem dX8_pass_80 : decode cX8_pass 80 = .ok (.iload_n 3, 1) := by decide +kernel
theorem dX8_pass_81 : decode cX8_pass 81 = .ok (.invokevirtual 130, 3) := by decide +kernel
theorem dX8_pass_84 : decode cX8_pass 84 = .ok (.istore 4, 2) := by decide +kernel
theorem dX8_pass_86 : decode cX8_pass 86 = .ok (.iload 4, 2) := by decide +kernel
theorem dX8_pass_88 : decode cX8_pass 88 = .ok (.ifCond .le 8, 3) := by decide +kernel
theorem dX8_pass_91 : decode cX8_pass 91 = .ok (.iload 4, 2) := by decide +kernel
theorem dX8_pass_93 : decode cX8_pass 93 = .ok (.goto 35, 3) := by decide +kernel
theorem dX8_pass_96 : decode cX8_pass 96 = .ok (.aload_n 0, 1) := by decide +kernel
theorem dX8_pass_97 : decode cX8_pass 97 = .ok (.aload_n 0, 1) := by decide +kernel
theorem dX8_pass_98 : decode cX8_pass 98 = .ok (.getfield 7, 3) := by decide +kernel
theorem dX8_pass_101 : decode cX8_pass 101 = .ok (.iload_n 2, 1) := by decide +kernel
theorem dX8_pass_102 : decode cX8_pass 102 = .ok (.iaload, 1) := by decide +kernel
theorem dX8_pass_103 : decode cX8_pass 103 = .ok (.aload_n 0, 1) := by decide +kernel
theorem dX8_pass_104 : decode cX8_pass 104 = .ok (.getfield 13, 3) := by decide +kernel
theorem dX8_pass_107 : decode cX8_pass 107 = .ok (.iload_n 2, 1) := by decide +kernel
theorem dX8_pass_108 : decode cX8_pass 108 = .ok (.iaload, 1) := by decide +kernel
theorem dX8_pass_109 : decode cX8_pass 109 = .ok (.iload 6, 2) := by decide +kernel
theorem dX8_pass_111 : decode cX8_pass 111 = .ok (.iload_n 3, 1) := by decide +kernel
theorem dX8_pass_112 : decode cX8_pass 112 = .ok (.aload_n 0, 1) := by decide +kernel
theorem dX8_pass_113 : decode cX8_pass 113 = .ok (.getfield 27, 3) := by decide +kernel
theorem dX8_pass_116 : decode cX8_pass 116 = .ok (.bipush 16, 2) := by decide +kernel
theorem dX8_pass_118 : decode cX8_pass 118 = .ok (.iload 5, 2) := by decide +kernel
theorem dX8_pass_120 : decode cX8_pass 120 = .ok (.imul, 1) := by decide +kernel
theorem dX8_pass_121 : decode cX8_pass 121 = .ok (.iload 6, 2) := by decide +kernel
theorem dX8_pass_123 : decode cX8_pass 123 = .ok (.iadd, 1) := by decide +kernel
theorem dX8_pass_124 : decode cX8_pass 124 = .ok (.laload, 1) := by decide +kernel
theorem dX8_pass_125 : decode cX8_pass 125 = .ok (.invokevirtual 140, 3) := by decide +kernel
theorem dX8_pass_128 : decode cX8_pass 128 = .ok (.istore 4, 2) := by decide +kernel
theorem dX8_pass_130 : decode cX8_pass 130 = .ok (.iload 4, 2) := by decide +kernel
theorem dX8_pass_132 : decode cX8_pass 132 = .ok (.ifCond .le 14, 3) := by decide +kernel
theorem dX8_pass_135 : decode cX8_pass 135 = .ok (.aload_n 0, 1) := by decide +kernel
theorem dX8_pass_136 : decode cX8_pass 136 = .ok (.iload 4, 2) := by decide +kernel
theorem dX8_pass_138 : decode cX8_pass 138 = .ok (.invokevirtual 50, 3) := by decide +kernel
theorem dX8_pass_141 : decode cX8_pass 141 = .ok (.istore 4, 2) := by decide +kernel
theorem dX8_pass_143 : decode cX8_pass 143 = .ok (.iload 6, 2) := by decide +kernel
theorem dX8_pass_145 : decode cX8_pass 145 = .ok (.ireturn, 1) := by decide +kernel
theorem dX8_pass_146 : decode cX8_pass 146 = .ok (.iinc 6 1, 3) := by decide +kernel
theorem dX8_pass_149 : decode cX8_pass 149 = .ok (.goto (-87), 3) := by decide +kernel
theorem dX8_pass_152 : decode cX8_pass 152 = .ok (.aload_n 0, 1) := by decide +kernel
theorem dX8_pass_153 : decode cX8_pass 153 = .ok (.getfield 23, 3) := by decide +kernel
theorem dX8_pass_156 : decode cX8_pass 156 = .ok (.iload 5, 2) := by decide +kernel
theorem dX8_pass_158 : decode cX8_pass 158 = .ok (.iaload, 1) := by decide +kernel
theorem dX8_pass_159 : decode cX8_pass 159 = .ok (.ireturn, 1) := by decide +kernel
theorem dX8_firstFault_0 : decode cX8_firstFault 0 = .ok (.aload_n 0, 1) := by decide +kernel
theorem dX8_firstFault_1 : decode cX8_firstFault 1 = .ok (.iload_n 1, 1) := by decide +kernel
theorem dX8_firstFault_2 : decode cX8_firstFault 2 = .ok (.invokevirtual 144, 3) := by decide +kernel
theorem dX8_firstFault_5 : decode cX8_firstFault 5 = .ok (.istore_n 2, 1) := by decide +kernel
theorem dX8_firstFault_6 : decode cX8_firstFault 6 = .ok (.iload_n 2, 1) := by decide +kernel
theorem dX8_firstFault_7 : decode cX8_firstFault 7 = .ok (.ifCond .le 7, 3) := by decide +kernel
theorem dX8_firstFault_10 : decode cX8_firstFault 10 = .ok (.iload_n 2, 1) := by decide +kernel
theorem dX8_firstFault_11 : decode cX8_firstFault 11 = .ok (.goto 22, 3) := by decide +kernel
theorem dX8_firstFault_14 : decode cX8_firstFault 14 = .ok (.aload_n 0, 1) := by decide +kernel
theorem dX8_firstFault_15 : decode cX8_firstFault 15 = .ok (.getfield 23, 3) := by decide +kernel
theorem dX8_firstFault_18 : decode cX8_firstFault 18 = .ok (.aload_n 0, 1) := by decide +kernel
theorem dX8_firstFault_19 : decode cX8_firstFault 19 = .ok (.getfield 13, 3) := by decide +kernel
theorem dX8_firstFault_22 : decode cX8_firstFault 22 = .ok (.iload_n 1, 1) := by decide +kernel
theorem dX8_firstFault_23 : decode cX8_firstFault 23 = .ok (.iaload, 1) := by decide +kernel
theorem dX8_firstFault_24 : decode cX8_firstFault 24 = .ok (.iaload, 1) := by decide +kernel
theorem dX8_firstFault_25 : decode cX8_firstFault 25 = .ok (.ifCond .ne 7, 3) := by decide +kernel
theorem dX8_firstFault_28 : decode cX8_firstFault 28 = .ok (.iconst 3, 1) := by decide +kernel
theorem dX8_firstFault_29 : decode cX8_firstFault 29 = .ok (.goto 4, 3) := by decide +kernel
theorem dX8_firstFault_32 : decode cX8_firstFault 32 = .ok (.iconst 0, 1) := by decide +kernel
theorem dX8_firstFault_33 : decode cX8_firstFault 33 = .ok (.ireturn, 1) := by decide +kernel
theorem dX8_kinds_0 : decode cX8_kinds 0 = .ok (.aload_n 0, 1) := by decide +kernel
theorem dX8_kinds_1 : decode cX8_kinds 1 = .ok (.iload_n 1, 1) := by decide +kernel
theorem dX8_kinds_2 : decode cX8_kinds 2 = .ok (.invokevirtual 159, 3) := by decide +kernel
theorem dX8_kinds_5 : decode cX8_kinds 5 = .ok (.istore_n 3, 1) := by decide +kernel
theorem dX8_kinds_6 : decode cX8_kinds 6 = .ok (.iconst 0, 1) := by decide +kernel
theorem dX8_kinds_7 : decode cX8_kinds 7 = .ok (.istore 4, 2) := by decide +kernel
theorem dX8_kinds_9 : decode cX8_kinds 9 = .ok (.iconst 0, 1) := by decide +kernel
theorem dX8_kinds_10 : decode cX8_kinds 10 = .ok (.istore 5, 2) := by decide +kernel
theorem dX8_kinds_12 : decode cX8_kinds 12 = .ok (.iload 5, 2) := by decide +kernel
theorem dX8_kinds_14 : decode cX8_kinds 14 = .ok (.bipush 8, 2) := by decide +kernel
theorem dX8_kinds_16 : decode cX8_kinds 16 = .ok (.if_icmp .ge 73, 3) := by decide +kernel
theorem dX8_kinds_19 : decode cX8_kinds 19 = .ok (.iload_n 3, 1) := by decide +kernel
theorem dX8_kinds_20 : decode cX8_kinds 20 = .ok (.ifCond .ne 69, 3) := by decide +kernel
theorem dX8_kinds_23 : decode cX8_kinds 23 = .ok (.aload_n 0, 1) := by decide +kernel
theorem dX8_kinds_24 : decode cX8_kinds 24 = .ok (.getfield 20, 3) := by decide +kernel
theorem dX8_kinds_27 : decode cX8_kinds 27 = .ok (.aload_n 0, 1) := by decide +kernel
theorem dX8_kinds_28 : decode cX8_kinds 28 = .ok (.getfield 13, 3) := by decide +kernel
theorem dX8_kinds_31 : decode cX8_kinds 31 = .ok (.iload_n 1, 1) := by decide +kernel
theorem dX8_kinds_32 : decode cX8_kinds 32 = .ok (.iaload, 1) := by decide +kernel
theorem dX8_kinds_33 : decode cX8_kinds 33 = .ok (.iaload, 1) := by decide +kernel
theorem dX8_kinds_34 : decode cX8_kinds 34 = .ok (.istore 6, 2) := by decide +kernel
theorem dX8_kinds_36 : decode cX8_kinds 36 = .ok (.iload 4, 2) := by decide +kernel
theorem dX8_kinds_38 : decode cX8_kinds 38 = .ok (.iload 6, 2) := by decide +kernel
theorem dX8_kinds_40 : decode cX8_kinds 40 = .ok (.bipush 8, 2) := by decide +kernel
theorem dX8_kinds_42 : decode cX8_kinds 42 = .ok (.if_icmp .ge 37, 3) := by decide +kernel
theorem dX8_kinds_45 : decode cX8_kinds 45 = .ok (.iload_n 2, 1) := by decide +kernel
theorem dX8_kinds_46 : decode cX8_kinds 46 = .ok (.ifCond .eq 16, 3) := by decide +kernel
theorem dX8_kinds_49 : decode cX8_kinds 49 = .ok (.iload 5, 2) := by decide +kernel
theorem dX8_kinds_51 : decode cX8_kinds 51 = .ok (.iload 6, 2) := by decide +kernel
theorem dX8_kinds_53 : decode cX8_kinds 53 = .ok (.invokestatic 100, 3) := by decide +kernel
theorem dX8_kinds_56 : decode cX8_kinds 56 = .ok (.ifCond .eq 23, 3) := by decide +kernel
theorem dX8_kinds_59 : decode cX8_kinds 59 = .ok (.goto 13, 3) := by decide +kernel
end
section
theorem dX8_kinds_62 : decode cX8_kinds 62 = .ok (.iload 6, 2) := by decide +kernel
theorem dX8_kinds_64 : decode cX8_kinds 64 = .ok (.iload 5, 2) := by decide +kernel
theorem dX8_kinds_66 : decode cX8_kinds 66 = .ok (.invokestatic 100, 3) := by decide +kernel
theorem dX8_kinds_69 : decode cX8_kinds 69 = .ok (.ifCond .eq 10, 3) := by decide +kernel
theorem dX8_kinds_72 : decode cX8_kinds 72 = .ok (.iconst 1, 1) := by decide +kernel
theorem dX8_kinds_73 : decode cX8_kinds 73 = .ok (.iload 5, 2) := by decide +kernel
theorem dX8_kinds_75 : decode cX8_kinds 75 = .ok (.ishl, 1) := by decide +kernel
theorem dX8_kinds_76 : decode cX8_kinds 76 = .ok (.goto 4, 3) := by decide +kernel
theorem dX8_kinds_79 : decode cX8_kinds 79 = .ok (.iconst 0, 1) := by decide +kernel
theorem dX8_kinds_80 : decode cX8_kinds 80 = .ok (.ior, 1) := by decide +kernel
theorem dX8_kinds_81 : decode cX8_kinds 81 = .ok (.istore 4, 2) := by decide +kernel
theorem dX8_kinds_83 : decode cX8_kinds 83 = .ok (.iinc 5 1, 3) := by decide +kernel
theorem dX8_kinds_86 : decode cX8_kinds 86 = .ok (.goto (-74), 3) := by decide +kernel
theorem dX8_kinds_89 : decode cX8_kinds 89 = .ok (.aload_n 0, 1) := by decide +kernel
theorem dX8_kinds_90 : decode cX8_kinds 90 = .ok (.iload_n 3, 1) := by decide +kernel
theorem dX8_kinds_91 : decode cX8_kinds 91 = .ok (.iload 4, 2) := by decide +kernel
theorem dX8_kinds_93 : decode cX8_kinds 93 = .ok (.invokevirtual 121, 3) := by decide +kernel
theorem dX8_kinds_96 : decode cX8_kinds 96 = .ok (.ireturn, 1) := by decide +kernel
theorem dX8_takes_0 : decode cX8_takes 0 = .ok (.iload_n 1, 1) := by decide +kernel
theorem dX8_takes_1 : decode cX8_takes 1 = .ok (.invokestatic 57, 3) := by decide +kernel
theorem dX8_takes_4 : decode cX8_takes 4 = .ok (.ifCond .eq 7, 3) := by decide +kernel
theorem dX8_takes_7 : decode cX8_takes 7 = .ok (.iconst (-1), 1) := by decide +kernel
theorem dX8_takes_8 : decode cX8_takes 8 = .ok (.goto 9, 3) := by decide +kernel
theorem dX8_takes_11 : decode cX8_takes 11 = .ok (.aload_n 0, 1) := by decide +kernel
theorem dX8_takes_12 : decode cX8_takes 12 = .ok (.iload_n 1, 1) := by decide +kernel
theorem dX8_takes_13 : decode cX8_takes 13 = .ok (.iconst 1, 1) := by decide +kernel
theorem dX8_takes_14 : decode cX8_takes 14 = .ok (.invokevirtual 162, 3) := by decide +kernel
theorem dX8_takes_17 : decode cX8_takes 17 = .ok (.ireturn, 1) := by decide +kernel
theorem dX8_gives_0 : decode cX8_gives 0 = .ok (.iload_n 1, 1) := by decide +kernel
theorem dX8_gives_1 : decode cX8_gives 1 = .ok (.invokestatic 57, 3) := by decide +kernel
theorem dX8_gives_4 : decode cX8_gives 4 = .ok (.ifCond .eq 7, 3) := by decide +kernel
theorem dX8_gives_7 : decode cX8_gives 7 = .ok (.iconst (-1), 1) := by decide +kernel
theorem dX8_gives_8 : decode cX8_gives 8 = .ok (.goto 9, 3) := by decide +kernel
theorem dX8_gives_11 : decode cX8_gives 11 = .ok (.aload_n 0, 1) := by decide +kernel
theorem dX8_gives_12 : decode cX8_gives 12 = .ok (.iload_n 1, 1) := by decide +kernel
theorem dX8_gives_13 : decode cX8_gives 13 = .ok (.iconst 0, 1) := by decide +kernel
theorem dX8_gives_14 : decode cX8_gives 14 = .ok (.invokevirtual 162, 3) := by decide +kernel
theorem dX8_gives_17 : decode cX8_gives 17 = .ok (.ireturn, 1) := by decide +kernel
theorem dX8_step_0 : decode cX8_step 0 = .ok (.iload_n 2, 1) := by decide +kernel
theorem dX8_step_1 : decode cX8_step 1 = .ok (.invokestatic 57, 3) := by decide +kernel
theorem dX8_step_4 : decode cX8_step 4 = .ok (.ifCond .ne 11, 3) := by decide +kernel
theorem dX8_step_7 : decode cX8_step 7 = .ok (.iload 4, 2) := by decide +kernel
theorem dX8_step_9 : decode cX8_step 9 = .ok (.invokestatic 57, 3) := by decide +kernel
theorem dX8_step_12 : decode cX8_step 12 = .ok (.ifCond .eq 5, 3) := by decide +kernel
theorem dX8_step_15 : decode cX8_step 15 = .ok (.iconst (-1), 1) := by decide +kernel
theorem dX8_step_16 : decode cX8_step 16 = .ok (.ireturn, 1) := by decide +kernel
theorem dX8_step_17 : decode cX8_step 17 = .ok (.iload_n 1, 1) := by decide +kernel
theorem dX8_step_18 : decode cX8_step 18 = .ok (.i2l, 1) := by decide +kernel
theorem dX8_step_19 : decode cX8_step 19 = .ok (.lconst 0, 1) := by decide +kernel
theorem dX8_step_20 : decode cX8_step 20 = .ok (.ldc2_w 166, 3) := by decide +kernel
theorem dX8_step_23 : decode cX8_step 23 = .ok (.invokestatic 42, 3) := by decide +kernel
theorem dX8_step_26 : decode cX8_step 26 = .ok (.ifCond .ne 30, 3) := by decide +kernel
theorem dX8_step_29 : decode cX8_step 29 = .ok (.iload_n 3, 1) := by decide +kernel
theorem dX8_step_30 : decode cX8_step 30 = .ok (.i2l, 1) := by decide +kernel
theorem dX8_step_31 : decode cX8_step 31 = .ok (.ldc2_w 168, 3) := by decide +kernel
theorem dX8_step_34 : decode cX8_step 34 = .ok (.ldc2_w 63, 3) := by decide +kernel
theorem dX8_step_37 : decode cX8_step 37 = .ok (.invokestatic 42, 3) := by decide +kernel
theorem dX8_step_40 : decode cX8_step 40 = .ok (.ifCond .ne 16, 3) := by decide +kernel
theorem dX8_step_43 : decode cX8_step 43 = .ok (.iload 5, 2) := by decide +kernel
theorem dX8_step_45 : decode cX8_step 45 = .ok (.i2l, 1) := by decide +kernel
theorem dX8_step_46 : decode cX8_step 46 = .ok (.lconst 0, 1) := by decide +kernel
theorem dX8_step_47 : decode cX8_step 47 = .ok (.ldc2_w 82, 3) := by decide +kernel
theorem dX8_step_50 : decode cX8_step 50 = .ok (.invokestatic 42, 3) := by decide +kernel
theorem dX8_step_53 : decode cX8_step 53 = .ok (.ifCond .eq 6, 3) := by decide +kernel
theorem dX8_step_56 : decode cX8_step 56 = .ok (.bipush (-2), 2) := by decide +kernel
theorem dX8_step_58 : decode cX8_step 58 = .ok (.ireturn, 1) := by decide +kernel
theorem dX8_step_59 : decode cX8_step 59 = .ok (.aload_n 0, 1) := by decide +kernel
theorem dX8_step_60 : decode cX8_step 60 = .ok (.getfield 170, 3) := by decide +kernel
theorem dX8_step_63 : decode cX8_step 63 = .ok (.bipush 12, 2) := by decide +kernel
theorem dX8_step_65 : decode cX8_step 65 = .ok (.if_icmp .ne 6, 3) := by decide +kernel
theorem dX8_step_68 : decode cX8_step 68 = .ok (.bipush (-4), 2) := by decide +kernel
theorem dX8_step_70 : decode cX8_step 70 = .ok (.ireturn, 1) := by decide +kernel
theorem dX8_step_71 : decode cX8_step 71 = .ok (.iconst 5, 1) := by decide +kernel
theorem dX8_step_72 : decode cX8_step 72 = .ok (.aload_n 0, 1) := by decide +kernel
theorem dX8_step_73 : decode cX8_step 73 = .ok (.getfield 170, 3) := by decide +kernel
theorem dX8_step_76 : decode cX8_step 76 = .ok (.imul, 1) := by decide +kernel
theorem dX8_step_77 : decode cX8_step 77 = .ok (.istore 6, 2) := by decide +kernel
theorem dX8_step_79 : decode cX8_step 79 = .ok (.aload_n 0, 1) := by decide +kernel
theorem dX8_step_80 : decode cX8_step 80 = .ok (.getfield 31, 3) := by decide +kernel
theorem dX8_step_83 : decode cX8_step 83 = .ok (.iload 6, 2) := by decide +kernel
theorem dX8_step_85 : decode cX8_step 85 = .ok (.iload_n 1, 1) := by decide +kernel
theorem dX8_step_86 : decode cX8_step 86 = .ok (.iastore, 1) := by decide +kernel
theorem dX8_step_87 : decode cX8_step 87 = .ok (.aload_n 0, 1) := by decide +kernel
theorem dX8_step_88 : decode cX8_step 88 = .ok (.getfield 31, 3) := by decide +kernel
theorem dX8_step_91 : decode cX8_step 91 = .ok (.iload 6, 2) := by decide +kernel
theorem dX8_step_93 : decode cX8_step 93 = .ok (.iconst 1, 1) := by decide +kernel
theorem dX8_step_94 : decode cX8_step 94 = .ok (.iadd, 1) := by decide +kernel
theorem dX8_step_95 : decode cX8_step 95 = .ok (.iload_n 2, 1) := by decide +kernel
theorem dX8_step_96 : decode cX8_step 96 = .ok (.iastore, 1) := by decide +kernel
theorem dX8_step_97 : decode cX8_step 97 = .ok (.aload_n 0, 1) := by decide +kernel
theorem dX8_step_98 : decode cX8_step 98 = .ok (.getfield 31, 3) := by decide +kernel
theorem dX8_step_101 : decode cX8_step 101 = .ok (.iload 6, 2) := by decide +kernel
theorem dX8_step_103 : decode cX8_step 103 = .ok (.iconst 2, 1) := by decide +kernel
theorem dX8_step_104 : decode cX8_step 104 = .ok (.iadd, 1) := by decide +kernel
theorem dX8_step_105 : decode cX8_step 105 = .ok (.iload_n 3, 1) := by decide +kernel
theorem dX8_step_106 : decode cX8_step 106 = .ok (.iastore, 1) := by decide +kernel
theorem dX8_step_107 : decode cX8_step 107 = .ok (.aload_n 0, 1) := by decide +kernel
theorem dX8_step_108 : decode cX8_step 108 = .ok (.getfield 31, 3) := by decide +kernel
theorem dX8_step_111 : decode cX8_step 111 = .ok (.iload 6, 2) := by decide +kernel
theorem dX8_step_113 : decode cX8_step 113 = .ok (.iconst 3, 1) := by decide +kernel
theorem dX8_step_114 : decode cX8_step 114 = .ok (.iadd, 1) := by decide +kernel
theorem dX8_step_115 : decode cX8_step 115 = .ok (.iload 4, 2) := by decide +kernel
theorem dX8_step_117 : decode cX8_step 117 = .ok (.iastore, 1) := by decide +kernel
theorem dX8_step_118 : decode cX8_step 118 = .ok (.aload_n 0, 1) := by decide +kernel
theorem dX8_step_119 : decode cX8_step 119 = .ok (.getfield 31, 3) := by decide +kernel
theorem dX8_step_122 : decode cX8_step 122 = .ok (.iload 6, 2) := by decide +kernel
theorem dX8_step_124 : decode cX8_step 124 = .ok (.iconst 4, 1) := by decide +kernel
theorem dX8_step_125 : decode cX8_step 125 = .ok (.iadd, 1) := by decide +kernel
theorem dX8_step_126 : decode cX8_step 126 = .ok (.iload 5, 2) := by decide +kernel
theorem dX8_step_128 : decode cX8_step 128 = .ok (.iastore, 1) := by decide +kernel
theorem dX8_step_129 : decode cX8_step 129 = .ok (.aload_n 0, 1) := by decide +kernel
theorem dX8_step_130 : decode cX8_step 130 = .ok (.dup, 1) := by decide +kernel
theorem dX8_step_131 : decode cX8_step 131 = .ok (.getfield 170, 3) := by decide +kernel
theorem dX8_step_134 : decode cX8_step 134 = .ok (.iconst 1, 1) := by decide +kernel
theorem dX8_step_135 : decode cX8_step 135 = .ok (.iadd, 1) := by decide +kernel
theorem dX8_step_136 : decode cX8_step 136 = .ok (.putfield 170, 3) := by decide +kernel
theorem dX8_step_139 : decode cX8_step 139 = .ok (.aload_n 0, 1) := by decide +kernel
theorem dX8_step_140 : decode cX8_step 140 = .ok (.getfield 170, 3) := by decide +kernel
theorem dX8_step_143 : decode cX8_step 143 = .ok (.ireturn, 1) := by decide +kernel
theorem dX8_does_0 : decode cX8_does 0 = .ok (.aload_n 0, 1) := by decide +kernel
theorem dX8_does_1 : decode cX8_does 1 = .ok (.getfield 31, 3) := by decide +kernel
theorem dX8_does_4 : decode cX8_does 4 = .ok (.iload_n 1, 1) := by decide +kernel
theorem dX8_does_5 : decode cX8_does 5 = .ok (.iconst 1, 1) := by decide +kernel
theorem dX8_does_6 : decode cX8_does 6 = .ok (.iadd, 1) := by decide +kernel
theorem dX8_does_7 : decode cX8_does 7 = .ok (.iaload, 1) := by decide +kernel
theorem dX8_does_8 : decode cX8_does 8 = .ok (.istore_n 2, 1) := by decide +kernel
theorem dX8_does_9 : decode cX8_does 9 = .ok (.aload_n 0, 1) := by decide +kernel
theorem dX8_does_10 : decode cX8_does 10 = .ok (.getfield 31, 3) := by decide +kernel
theorem dX8_does_13 : decode cX8_does 13 = .ok (.iload_n 1, 1) := by decide +kernel
theorem dX8_does_14 : decode cX8_does 14 = .ok (.iconst 2, 1) := by decide +kernel
theorem dX8_does_15 : decode cX8_does 15 = .ok (.iadd, 1) := by decide +kernel
theorem dX8_does_16 : decode cX8_does 16 = .ok (.iaload, 1) := by decide +kernel
theorem dX8_does_17 : decode cX8_does 17 = .ok (.istore_n 3, 1) := by decide +kernel
theorem dX8_does_18 : decode cX8_does 18 = .ok (.aload_n 0, 1) := by decide +kernel
theorem dX8_does_19 : decode cX8_does 19 = .ok (.getfield 31, 3) := by decide +kernel
theorem dX8_does_22 : decode cX8_does 22 = .ok (.iload_n 1, 1) := by decide +kernel
theorem dX8_does_23 : decode cX8_does 23 = .ok (.iconst 4, 1) := by decide +kernel
theorem dX8_does_24 : decode cX8_does 24 = .ok (.iadd, 1) := by decide +kernel
theorem dX8_does_25 : decode cX8_does 25 = .ok (.iaload, 1) := by decide +kernel
theorem dX8_does_26 : decode cX8_does 26 = .ok (.istore 4, 2) := by decide +kernel
theorem dX8_does_28 : decode cX8_does 28 = .ok (.aload_n 0, 1) := by decide +kernel
theorem dX8_does_29 : decode cX8_does 29 = .ok (.getfield 31, 3) := by decide +kernel
theorem dX8_does_32 : decode cX8_does 32 = .ok (.iload_n 1, 1) := by decide +kernel
theorem dX8_does_33 : decode cX8_does 33 = .ok (.iaload, 1) := by decide +kernel
theorem dX8_does_34 : decode cX8_does 34 = .ok (.tableswitch 113 0 4 #[34, 41, 48, 68, 104], 34) := by decide +kernel
theorem dX8_does_68 : decode cX8_does 68 = .ok (.aload_n 0, 1) := by decide +kernel
theorem dX8_does_69 : decode cX8_does 69 = .ok (.iload_n 2, 1) := by decide +kernel
theorem dX8_does_70 : decode cX8_does 70 = .ok (.iload_n 3, 1) := by decide +kernel
theorem dX8_does_71 : decode cX8_does 71 = .ok (.invokevirtual 115, 3) := by decide +kernel
theorem dX8_does_74 : decode cX8_does 74 = .ok (.ireturn, 1) := by decide +kernel
theorem dX8_does_75 : decode cX8_does 75 = .ok (.aload_n 0, 1) := by decide +kernel
theorem dX8_does_76 : decode cX8_does 76 = .ok (.iload_n 2, 1) := by decide +kernel
theorem dX8_does_77 : decode cX8_does 77 = .ok (.iload_n 3, 1) := by decide +kernel
theorem dX8_does_78 : decode cX8_does 78 = .ok (.invokevirtual 127, 3) := by decide +kernel
theorem dX8_does_81 : decode cX8_does 81 = .ok (.ireturn, 1) := by decide +kernel
theorem dX8_does_82 : decode cX8_does 82 = .ok (.aload_n 0, 1) := by decide +kernel
theorem dX8_does_83 : decode cX8_does 83 = .ok (.aload_n 0, 1) := by decide +kernel
theorem dX8_does_84 : decode cX8_does 84 = .ok (.getfield 7, 3) := by decide +kernel
theorem dX8_does_87 : decode cX8_does 87 = .ok (.iload_n 2, 1) := by decide +kernel
theorem dX8_does_88 : decode cX8_does 88 = .ok (.iaload, 1) := by decide +kernel
theorem dX8_does_89 : decode cX8_does 89 = .ok (.aload_n 0, 1) := by decide +kernel
theorem dX8_does_90 : decode cX8_does 90 = .ok (.getfield 13, 3) := by decide +kernel
theorem dX8_does_93 : decode cX8_does 93 = .ok (.iload_n 2, 1) := by decide +kernel
theorem dX8_does_94 : decode cX8_does 94 = .ok (.iaload, 1) := by decide +kernel
theorem dX8_does_95 : decode cX8_does 95 = .ok (.iload_n 3, 1) := by decide +kernel
theorem dX8_does_96 : decode cX8_does 96 = .ok (.iload 4, 2) := by decide +kernel
theorem dX8_does_98 : decode cX8_does 98 = .ok (.invokevirtual 134, 3) := by decide +kernel
theorem dX8_does_101 : decode cX8_does 101 = .ok (.ireturn, 1) := by decide +kernel
theorem dX8_does_102 : decode cX8_does 102 = .ok (.aload_n 0, 1) := by decide +kernel
theorem dX8_does_103 : decode cX8_does 103 = .ok (.getfield 69, 3) := by decide +kernel
theorem dX8_does_106 : decode cX8_does 106 = .ok (.iconst 1, 1) := by decide +kernel
theorem dX8_does_107 : decode cX8_does 107 = .ok (.if_icmp .eq 7, 3) := by decide +kernel
theorem dX8_does_110 : decode cX8_does 110 = .ok (.iconst 0, 1) := by decide +kernel
theorem dX8_does_111 : decode cX8_does 111 = .ok (.goto 26, 3) := by decide +kernel
theorem dX8_does_114 : decode cX8_does 114 = .ok (.aload_n 0, 1) := by decide +kernel
theorem dX8_does_115 : decode cX8_does 115 = .ok (.aload_n 0, 1) := by decide +kernel
theorem dX8_does_116 : decode cX8_does 116 = .ok (.getfield 7, 3) := by decide +kernel
theorem dX8_does_119 : decode cX8_does 119 = .ok (.iload_n 2, 1) := by decide +kernel
theorem dX8_does_120 : decode cX8_does 120 = .ok (.iaload, 1) := by decide +kernel
theorem dX8_does_121 : decode cX8_does 121 = .ok (.aload_n 0, 1) := by decide +kernel
theorem dX8_does_122 : decode cX8_does 122 = .ok (.getfield 13, 3) := by decide +kernel
theorem dX8_does_125 : decode cX8_does 125 = .ok (.iload_n 2, 1) := by decide +kernel
theorem dX8_does_126 : decode cX8_does 126 = .ok (.iaload, 1) := by decide +kernel
theorem dX8_does_127 : decode cX8_does 127 = .ok (.iload_n 3, 1) := by decide +kernel
theorem dX8_does_128 : decode cX8_does 128 = .ok (.iload 4, 2) := by decide +kernel
theorem dX8_does_130 : decode cX8_does 130 = .ok (.aload_n 0, 1) := by decide +kernel
theorem dX8_does_131 : decode cX8_does 131 = .ok (.getfield 78, 3) := by decide +kernel
theorem dX8_does_134 : decode cX8_does 134 = .ok (.invokevirtual 140, 3) := by decide +kernel
theorem dX8_does_137 : decode cX8_does 137 = .ok (.ireturn, 1) := by decide +kernel
theorem dX8_does_138 : decode cX8_does 138 = .ok (.aload_n 0, 1) := by decide +kernel
theorem dX8_does_139 : decode cX8_does 139 = .ok (.iload_n 2, 1) := by decide +kernel
theorem dX8_does_140 : decode cX8_does 140 = .ok (.iload_n 3, 1) := by decide +kernel
theorem dX8_does_141 : decode cX8_does 141 = .ok (.iload 4, 2) := by decide +kernel
theorem dX8_does_143 : decode cX8_does 143 = .ok (.invokevirtual 156, 3) := by decide +kernel
theorem dX8_does_146 : decode cX8_does 146 = .ok (.ireturn, 1) := by decide +kernel
theorem dX8_does_147 : decode cX8_does 147 = .ok (.aload_n 0, 1) := by decide +kernel
theorem dX8_does_148 : decode cX8_does 148 = .ok (.iload_n 2, 1) := by decide +kernel
theorem dX8_does_149 : decode cX8_does 149 = .ok (.iload_n 3, 1) := by decide +kernel
theorem dX8_does_150 : decode cX8_does 150 = .ok (.aload_n 0, 1) := by decide +kernel
theorem dX8_does_151 : decode cX8_does 151 = .ok (.getfield 31, 3) := by decide +kernel
theorem dX8_does_154 : decode cX8_does 154 = .ok (.iload_n 1, 1) := by decide +kernel
theorem dX8_does_155 : decode cX8_does 155 = .ok (.iconst 3, 1) := by decide +kernel
theorem dX8_does_156 : decode cX8_does 156 = .ok (.iadd, 1) := by decide +kernel
theorem dX8_does_157 : decode cX8_does 157 = .ok (.iaload, 1) := by decide +kernel
theorem dX8_does_158 : decode cX8_does 158 = .ok (.iload 4, 2) := by decide +kernel
theorem dX8_does_160 : decode cX8_does 160 = .ok (.invokevirtual 173, 3) := by decide +kernel
theorem dX8_does_163 : decode cX8_does 163 = .ok (.ireturn, 1) := by decide +kernel
theorem dX8_moves_0 : decode cX8_moves 0 = .ok (.aload_n 0, 1) := by decide +kernel
theorem dX8_moves_1 : decode cX8_moves 1 = .ok (.getfield 69, 3) := by decide +kernel
theorem dX8_moves_4 : decode cX8_moves 4 = .ok (.istore 5, 2) := by decide +kernel
theorem dX8_moves_6 : decode cX8_moves 6 = .ok (.aload_n 0, 1) := by decide +kernel
theorem dX8_moves_7 : decode cX8_moves 7 = .ok (.getfield 75, 3) := by decide +kernel
theorem dX8_moves_10 : decode cX8_moves 10 = .ok (.istore 6, 2) := by decide +kernel
theorem dX8_moves_12 : decode cX8_moves 12 = .ok (.aload_n 0, 1) := by decide +kernel
theorem dX8_moves_13 : decode cX8_moves 13 = .ok (.getfield 78, 3) := by decide +kernel
theorem dX8_moves_16 : decode cX8_moves 16 = .ok (.lstore 7, 2) := by decide +kernel
theorem dX8_moves_18 : decode cX8_moves 18 = .ok (.aload_n 0, 1) := by decide +kernel
theorem dX8_moves_19 : decode cX8_moves 19 = .ok (.getfield 72, 3) := by decide +kernel
theorem dX8_moves_22 : decode cX8_moves 22 = .ok (.istore 9, 2) := by decide +kernel
theorem dX8_moves_24 : decode cX8_moves 24 = .ok (.aload_n 0, 1) := by decide +kernel
theorem dX8_moves_25 : decode cX8_moves 25 = .ok (.iload_n 1, 1) := by decide +kernel
theorem dX8_moves_26 : decode cX8_moves 26 = .ok (.iload_n 2, 1) := by decide +kernel
theorem dX8_moves_27 : decode cX8_moves 27 = .ok (.invokevirtual 115, 3) := by decide +kernel
theorem dX8_moves_30 : decode cX8_moves 30 = .ok (.istore 10, 2) := by decide +kernel
theorem dX8_moves_32 : decode cX8_moves 32 = .ok (.iload 10, 2) := by decide +kernel
theorem dX8_moves_34 : decode cX8_moves 34 = .ok (.ifCond .le 8, 3) := by decide +kernel
theorem dX8_moves_37 : decode cX8_moves 37 = .ok (.iload 10, 2) := by decide +kernel
theorem dX8_moves_39 : decode cX8_moves 39 = .ok (.goto 10, 3) := by decide +kernel
theorem dX8_moves_42 : decode cX8_moves 42 = .ok (.aload_n 0, 1) := by decide +kernel
theorem dX8_moves_43 : decode cX8_moves 43 = .ok (.iload_n 3, 1) := by decide +kernel
theorem dX8_moves_44 : decode cX8_moves 44 = .ok (.iload 4, 2) := by decide +kernel
theorem dX8_moves_46 : decode cX8_moves 46 = .ok (.invokevirtual 127, 3) := by decide +kernel
theorem dX8_moves_49 : decode cX8_moves 49 = .ok (.istore 10, 2) := by decide +kernel
theorem dX8_moves_51 : decode cX8_moves 51 = .ok (.aload_n 0, 1) := by decide +kernel
theorem dX8_moves_52 : decode cX8_moves 52 = .ok (.iload 5, 2) := by decide +kernel
theorem dX8_moves_54 : decode cX8_moves 54 = .ok (.putfield 69, 3) := by decide +kernel
theorem dX8_moves_57 : decode cX8_moves 57 = .ok (.aload_n 0, 1) := by decide +kernel
theorem dX8_moves_58 : decode cX8_moves 58 = .ok (.iload 6, 2) := by decide +kernel
theorem dX8_moves_60 : decode cX8_moves 60 = .ok (.putfield 75, 3) := by decide +kernel
theorem dX8_moves_63 : decode cX8_moves 63 = .ok (.aload_n 0, 1) := by decide +kernel
theorem dX8_moves_64 : decode cX8_moves 64 = .ok (.lload 7, 2) := by decide +kernel
theorem dX8_moves_66 : decode cX8_moves 66 = .ok (.putfield 78, 3) := by decide +kernel
theorem dX8_moves_69 : decode cX8_moves 69 = .ok (.aload_n 0, 1) := by decide +kernel
theorem dX8_moves_70 : decode cX8_moves 70 = .ok (.iload 9, 2) := by decide +kernel
theorem dX8_moves_72 : decode cX8_moves 72 = .ok (.putfield 72, 3) := by decide +kernel
theorem dX8_moves_75 : decode cX8_moves 75 = .ok (.iload 10, 2) := by decide +kernel
theorem dX8_moves_77 : decode cX8_moves 77 = .ok (.ireturn, 1) := by decide +kernel
theorem dX8_run_0 : decode cX8_run 0 = .ok (.iconst 0, 1) := by decide +kernel
theorem dX8_run_1 : decode cX8_run 1 = .ok (.istore_n 2, 1) := by decide +kernel
theorem dX8_run_2 : decode cX8_run 2 = .ok (.aload_n 0, 1) := by decide +kernel
theorem dX8_run_3 : decode cX8_run 3 = .ok (.iconst 0, 1) := by decide +kernel
theorem dX8_run_4 : decode cX8_run 4 = .ok (.putfield 176, 3) := by decide +kernel
theorem dX8_run_7 : decode cX8_run 7 = .ok (.iconst 1, 1) := by decide +kernel
theorem dX8_run_8 : decode cX8_run 8 = .ok (.istore_n 3, 1) := by decide +kernel
theorem dX8_run_9 : decode cX8_run 9 = .ok (.iload_n 3, 1) := by decide +kernel
theorem dX8_run_10 : decode cX8_run 10 = .ok (.ifCond .eq 86, 3) := by decide +kernel
theorem dX8_run_13 : decode cX8_run 13 = .ok (.aload_n 0, 1) := by decide +kernel
theorem dX8_run_14 : decode cX8_run 14 = .ok (.getfield 176, 3) := by decide +kernel
theorem dX8_run_17 : decode cX8_run 17 = .ok (.aload_n 0, 1) := by decide +kernel
theorem dX8_run_18 : decode cX8_run 18 = .ok (.getfield 170, 3) := by decide +kernel
theorem dX8_run_21 : decode cX8_run 21 = .ok (.if_icmp .ge 75, 3) := by decide +kernel
theorem dX8_run_24 : decode cX8_run 24 = .ok (.aload_n 0, 1) := by decide +kernel
theorem dX8_run_25 : decode cX8_run 25 = .ok (.iconst 5, 1) := by decide +kernel
theorem dX8_run_26 : decode cX8_run 26 = .ok (.aload_n 0, 1) := by decide +kernel
theorem dX8_run_27 : decode cX8_run 27 = .ok (.getfield 176, 3) := by decide +kernel
theorem dX8_run_30 : decode cX8_run 30 = .ok (.imul, 1) := by decide +kernel
theorem dX8_run_31 : decode cX8_run 31 = .ok (.invokevirtual 179, 3) := by decide +kernel
theorem dX8_run_34 : decode cX8_run 34 = .ok (.istore 4, 2) := by decide +kernel
theorem dX8_run_36 : decode cX8_run 36 = .ok (.aload_n 0, 1) := by decide +kernel
theorem dX8_run_37 : decode cX8_run 37 = .ok (.getfield 34, 3) := by decide +kernel
theorem dX8_run_40 : decode cX8_run 40 = .ok (.aload_n 0, 1) := by decide +kernel
theorem dX8_run_41 : decode cX8_run 41 = .ok (.getfield 176, 3) := by decide +kernel
theorem dX8_run_44 : decode cX8_run 44 = .ok (.iload 4, 2) := by decide +kernel
theorem dX8_run_46 : decode cX8_run 46 = .ok (.iastore, 1) := by decide +kernel
theorem dX8_run_47 : decode cX8_run 47 = .ok (.aload_n 0, 1) := by decide +kernel
theorem dX8_run_48 : decode cX8_run 48 = .ok (.dup, 1) := by decide +kernel
theorem dX8_run_49 : decode cX8_run 49 = .ok (.getfield 176, 3) := by decide +kernel
theorem dX8_run_52 : decode cX8_run 52 = .ok (.iconst 1, 1) := by decide +kernel
theorem dX8_run_53 : decode cX8_run 53 = .ok (.iadd, 1) := by decide +kernel
theorem dX8_run_54 : decode cX8_run 54 = .ok (.putfield 176, 3) := by decide +kernel
theorem dX8_run_57 : decode cX8_run 57 = .ok (.iload_n 2, 1) := by decide +kernel
theorem dX8_run_58 : decode cX8_run 58 = .ok (.iload 4, 2) := by decide +kernel
theorem dX8_run_60 : decode cX8_run 60 = .ok (.ifCond .ne 7, 3) := by decide +kernel
theorem dX8_run_63 : decode cX8_run 63 = .ok (.iconst 1, 1) := by decide +kernel
theorem dX8_run_64 : decode cX8_run 64 = .ok (.goto 4, 3) := by decide +kernel
theorem dX8_run_67 : decode cX8_run 67 = .ok (.iconst 0, 1) := by decide +kernel
theorem dX8_run_68 : decode cX8_run 68 = .ok (.iadd, 1) := by decide +kernel
theorem dX8_run_69 : decode cX8_run 69 = .ok (.istore_n 2, 1) := by decide +kernel
theorem dX8_run_70 : decode cX8_run 70 = .ok (.iload 4, 2) := by decide +kernel
theorem dX8_run_72 : decode cX8_run 72 = .ok (.ifCond .le 21, 3) := by decide +kernel
theorem dX8_run_75 : decode cX8_run 75 = .ok (.aload_n 0, 1) := by decide +kernel
theorem dX8_run_76 : decode cX8_run 76 = .ok (.iload 4, 2) := by decide +kernel
theorem dX8_run_78 : decode cX8_run 78 = .ok (.invokevirtual 50, 3) := by decide +kernel
theorem dX8_run_81 : decode cX8_run 81 = .ok (.istore 4, 2) := by decide +kernel
theorem dX8_run_83 : decode cX8_run 83 = .ok (.iload_n 1, 1) := by decide +kernel
theorem dX8_run_84 : decode cX8_run 84 = .ok (.ifCond .ne 7, 3) := by decide +kernel
theorem dX8_run_87 : decode cX8_run 87 = .ok (.iconst 1, 1) := by decide +kernel
theorem dX8_run_88 : decode cX8_run 88 = .ok (.goto 4, 3) := by decide +kernel
theorem dX8_run_91 : decode cX8_run 91 = .ok (.iconst 0, 1) := by decide +kernel
theorem dX8_run_92 : decode cX8_run 92 = .ok (.istore_n 3, 1) := by decide +kernel
theorem dX8_run_93 : decode cX8_run 93 = .ok (.goto (-84), 3) := by decide +kernel
theorem dX8_run_96 : decode cX8_run 96 = .ok (.iload_n 2, 1) := by decide +kernel
theorem dX8_run_97 : decode cX8_run 97 = .ok (.ireturn, 1) := by decide +kernel
theorem dX8_met_0 : decode cX8_met 0 = .ok (.iload_n 1, 1) := by decide +kernel
theorem dX8_met_1 : decode cX8_met 1 = .ok (.i2l, 1) := by decide +kernel
theorem dX8_met_2 : decode cX8_met 2 = .ok (.lconst 0, 1) := by decide +kernel
theorem dX8_met_3 : decode cX8_met 3 = .ok (.aload_n 0, 1) := by decide +kernel
theorem dX8_met_4 : decode cX8_met 4 = .ok (.getfield 176, 3) := by decide +kernel
theorem dX8_met_7 : decode cX8_met 7 = .ok (.iconst 1, 1) := by decide +kernel
theorem dX8_met_8 : decode cX8_met 8 = .ok (.isub, 1) := by decide +kernel
theorem dX8_met_9 : decode cX8_met 9 = .ok (.i2l, 1) := by decide +kernel
theorem dX8_met_10 : decode cX8_met 10 = .ok (.invokestatic 42, 3) := by decide +kernel
theorem dX8_met_13 : decode cX8_met 13 = .ok (.ifCond .eq 8, 3) := by decide +kernel
theorem dX8_met_16 : decode cX8_met 16 = .ok (.bipush (-9), 2) := by decide +kernel
theorem dX8_met_18 : decode cX8_met 18 = .ok (.goto 9, 3) := by decide +kernel
theorem dX8_met_21 : decode cX8_met 21 = .ok (.aload_n 0, 1) := by decide +kernel
theorem dX8_met_22 : decode cX8_met 22 = .ok (.getfield 34, 3) := by decide +kernel
theorem dX8_met_25 : decode cX8_met 25 = .ok (.iload_n 1, 1) := by decide +kernel
theorem dX8_met_26 : decode cX8_met 26 = .ok (.iaload, 1) := by decide +kernel
theorem dX8_met_27 : decode cX8_met 27 = .ok (.ireturn, 1) := by decide +kernel
theorem dX8_clear_0 : decode cX8_clear 0 = .ok (.aload_n 0, 1) := by decide +kernel
theorem dX8_clear_1 : decode cX8_clear 1 = .ok (.getfield 170, 3) := by decide +kernel
theorem dX8_clear_4 : decode cX8_clear 4 = .ok (.istore_n 1, 1) := by decide +kernel
theorem dX8_clear_5 : decode cX8_clear 5 = .ok (.aload_n 0, 1) := by decide +kernel
theorem dX8_clear_6 : decode cX8_clear 6 = .ok (.iconst 0, 1) := by decide +kernel
theorem dX8_clear_7 : decode cX8_clear 7 = .ok (.putfield 170, 3) := by decide +kernel
theorem dX8_clear_10 : decode cX8_clear 10 = .ok (.aload_n 0, 1) := by decide +kernel
theorem dX8_clear_11 : decode cX8_clear 11 = .ok (.iconst 0, 1) := by decide +kernel
theorem dX8_clear_12 : decode cX8_clear 12 = .ok (.putfield 176, 3) := by decide +kernel
theorem dX8_clear_15 : decode cX8_clear 15 = .ok (.iload_n 1, 1) := by decide +kernel
theorem dX8_clear_16 : decode cX8_clear 16 = .ok (.ireturn, 1) := by decide +kernel
theorem dX8_fault_0 : decode cX8_fault 0 = .ok (.aload_n 0, 1) := by decide +kernel
theorem dX8_fault_1 : decode cX8_fault 1 = .ok (.getfield 46, 3) := by decide +kernel
theorem dX8_fault_4 : decode cX8_fault 4 = .ok (.ireturn, 1) := by decide +kernel
theorem dX8_faults_0 : decode cX8_faults 0 = .ok (.iload_n 1, 1) := by decide +kernel
theorem dX8_faults_1 : decode cX8_faults 1 = .ok (.i2l, 1) := by decide +kernel
theorem dX8_faults_2 : decode cX8_faults 2 = .ok (.lconst 0, 1) := by decide +kernel
theorem dX8_faults_3 : decode cX8_faults 3 = .ok (.ldc2_w 182, 3) := by decide +kernel
theorem dX8_faults_6 : decode cX8_faults 6 = .ok (.invokestatic 42, 3) := by decide +kernel
theorem dX8_faults_9 : decode cX8_faults 9 = .ok (.ifCond .eq 8, 3) := by decide +kernel
theorem dX8_faults_12 : decode cX8_faults 12 = .ok (.bipush (-9), 2) := by decide +kernel
theorem dX8_faults_14 : decode cX8_faults 14 = .ok (.goto 9, 3) := by decide +kernel
theorem dX8_faults_17 : decode cX8_faults 17 = .ok (.aload_n 0, 1) := by decide +kernel
theorem dX8_faults_18 : decode cX8_faults 18 = .ok (.getfield 37, 3) := by decide +kernel
theorem dX8_faults_21 : decode cX8_faults 21 = .ok (.iload_n 1, 1) := by decide +kernel
theorem dX8_faults_22 : decode cX8_faults 22 = .ok (.iaload, 1) := by decide +kernel
theorem dX8_faults_23 : decode cX8_faults 23 = .ok (.ireturn, 1) := by decide +kernel
theorem dX8_has_0 : decode cX8_has 0 = .ok (.aload_n 0, 1) := by decide +kernel
theorem dX8_has_1 : decode cX8_has 1 = .ok (.getfield 69, 3) := by decide +kernel
theorem dX8_has_4 : decode cX8_has 4 = .ok (.ifCond .ne 8, 3) := by decide +kernel
theorem dX8_has_7 : decode cX8_has 7 = .ok (.bipush (-9), 2) := by decide +kernel
theorem dX8_has_9 : decode cX8_has 9 = .ok (.goto 50, 3) := by decide +kernel
theorem dX8_has_12 : decode cX8_has 12 = .ok (.aload_n 0, 1) := by decide +kernel
theorem dX8_has_13 : decode cX8_has 13 = .ok (.getfield 69, 3) := by decide +kernel
theorem dX8_has_16 : decode cX8_has 16 = .ok (.iconst 1, 1) := by decide +kernel
theorem dX8_has_17 : decode cX8_has 17 = .ok (.if_icmp .ne 10, 3) := by decide +kernel
theorem dX8_has_20 : decode cX8_has 20 = .ok (.aload_n 0, 1) := by decide +kernel
theorem dX8_has_21 : decode cX8_has 21 = .ok (.getfield 75, 3) := by decide +kernel
theorem dX8_has_24 : decode cX8_has 24 = .ok (.goto 35, 3) := by decide +kernel
theorem dX8_has_27 : decode cX8_has 27 = .ok (.aload_n 0, 1) := by decide +kernel
theorem dX8_has_28 : decode cX8_has 28 = .ok (.getfield 69, 3) := by decide +kernel
theorem dX8_has_31 : decode cX8_has 31 = .ok (.iconst 3, 1) := by decide +kernel
theorem dX8_has_32 : decode cX8_has 32 = .ok (.if_icmp .ne 8, 3) := by decide +kernel
theorem dX8_has_35 : decode cX8_has 35 = .ok (.bipush 10, 2) := by decide +kernel
theorem dX8_has_37 : decode cX8_has 37 = .ok (.goto 22, 3) := by decide +kernel
theorem dX8_has_40 : decode cX8_has 40 = .ok (.aload_n 0, 1) := by decide +kernel
theorem dX8_has_41 : decode cX8_has 41 = .ok (.getfield 16, 3) := by decide +kernel
theorem dX8_has_44 : decode cX8_has 44 = .ok (.aload_n 0, 1) := by decide +kernel
theorem dX8_has_45 : decode cX8_has 45 = .ok (.getfield 72, 3) := by decide +kernel
theorem dX8_has_48 : decode cX8_has 48 = .ok (.baload, 1) := by decide +kernel
theorem dX8_has_49 : decode cX8_has 49 = .ok (.ifCond .eq 8, 3) := by decide +kernel
theorem dX8_has_52 : decode cX8_has 52 = .ok (.bipush 9, 2) := by decide +kernel
theorem dX8_has_54 : decode cX8_has 54 = .ok (.goto 5, 3) := by decide +kernel
theorem dX8_has_57 : decode cX8_has 57 = .ok (.bipush 8, 2) := by decide +kernel
theorem dX8_has_59 : decode cX8_has 59 = .ok (.ireturn, 1) := by decide +kernel
theorem dX8_value_0 : decode cX8_value 0 = .ok (.aload_n 0, 1) := by decide +kernel
theorem dX8_value_1 : decode cX8_value 1 = .ok (.getfield 69, 3) := by decide +kernel
theorem dX8_value_4 : decode cX8_value 4 = .ok (.ifCond .ne 7, 3) := by decide +kernel
theorem dX8_value_7 : decode cX8_value 7 = .ok (.lconst 0, 1) := by decide +kernel
theorem dX8_value_8 : decode cX8_value 8 = .ok (.goto 44, 3) := by decide +kernel
theorem dX8_value_11 : decode cX8_value 11 = .ok (.aload_n 0, 1) := by decide +kernel
theorem dX8_value_12 : decode cX8_value 12 = .ok (.getfield 69, 3) := by decide +kernel
theorem dX8_value_15 : decode cX8_value 15 = .ok (.iconst 1, 1) := by decide +kernel
theorem dX8_value_16 : decode cX8_value 16 = .ok (.if_icmp .ne 10, 3) := by decide +kernel
theorem dX8_value_19 : decode cX8_value 19 = .ok (.aload_n 0, 1) := by decide +kernel
theorem dX8_value_20 : decode cX8_value 20 = .ok (.getfield 78, 3) := by decide +kernel
theorem dX8_value_23 : decode cX8_value 23 = .ok (.goto 29, 3) := by decide +kernel
theorem dX8_value_26 : decode cX8_value 26 = .ok (.aload_n 0, 1) := by decide +kernel
theorem dX8_value_27 : decode cX8_value 27 = .ok (.getfield 69, 3) := by decide +kernel
theorem dX8_value_30 : decode cX8_value 30 = .ok (.iconst 2, 1) := by decide +kernel
theorem dX8_value_31 : decode cX8_value 31 = .ok (.if_icmp .ne 11, 3) := by decide +kernel
theorem dX8_value_34 : decode cX8_value 34 = .ok (.aload_n 0, 1) := by decide +kernel
theorem dX8_value_35 : decode cX8_value 35 = .ok (.getfield 72, 3) := by decide +kernel
theorem dX8_value_38 : decode cX8_value 38 = .ok (.i2l, 1) := by decide +kernel
theorem dX8_value_39 : decode cX8_value 39 = .ok (.goto 13, 3) := by decide +kernel
theorem dX8_value_42 : decode cX8_value 42 = .ok (.aload_n 0, 1) := by decide +kernel
theorem dX8_value_43 : decode cX8_value 43 = .ok (.getfield 23, 3) := by decide +kernel
theorem dX8_value_46 : decode cX8_value 46 = .ok (.aload_n 0, 1) := by decide +kernel
theorem dX8_value_47 : decode cX8_value 47 = .ok (.getfield 72, 3) := by decide +kernel
theorem dX8_value_50 : decode cX8_value 50 = .ok (.iaload, 1) := by decide +kernel
theorem dX8_value_51 : decode cX8_value 51 = .ok (.i2l, 1) := by decide +kernel
theorem dX8_value_52 : decode cX8_value 52 = .ok (.lreturn, 1) := by decide +kernel
theorem dX8_told_0 : decode cX8_told 0 = .ok (.iload_n 1, 1) := by decide +kernel
theorem dX8_told_1 : decode cX8_told 1 = .ok (.invokestatic 57, 3) := by decide +kernel
theorem dX8_told_4 : decode cX8_told 4 = .ok (.ifCond .eq 5, 3) := by decide +kernel
theorem dX8_told_7 : decode cX8_told 7 = .ok (.iconst (-1), 1) := by decide +kernel
theorem dX8_told_8 : decode cX8_told 8 = .ok (.ireturn, 1) := by decide +kernel
theorem dX8_told_9 : decode cX8_told 9 = .ok (.aload_n 0, 1) := by decide +kernel
theorem dX8_told_10 : decode cX8_told 10 = .ok (.getfield 13, 3) := by decide +kernel
theorem dX8_told_13 : decode cX8_told 13 = .ok (.iload_n 1, 1) := by decide +kernel
theorem dX8_told_14 : decode cX8_told 14 = .ok (.iaload, 1) := by decide +kernel
theorem dX8_told_15 : decode cX8_told 15 = .ok (.istore_n 2, 1) := by decide +kernel
theorem dX8_told_16 : decode cX8_told 16 = .ok (.aload_n 0, 1) := by decide +kernel
theorem dX8_told_17 : decode cX8_told 17 = .ok (.getfield 7, 3) := by decide +kernel
theorem dX8_told_20 : decode cX8_told 20 = .ok (.iload_n 1, 1) := by decide +kernel
theorem dX8_told_21 : decode cX8_told 21 = .ok (.iaload, 1) := by decide +kernel
theorem dX8_told_22 : decode cX8_told 22 = .ok (.ifCond .ne 8, 3) := by decide +kernel
theorem dX8_told_25 : decode cX8_told 25 = .ok (.bipush (-9), 2) := by decide +kernel
theorem dX8_told_27 : decode cX8_told 27 = .ok (.goto 38, 3) := by decide +kernel
theorem dX8_told_30 : decode cX8_told 30 = .ok (.aload_n 0, 1) := by decide +kernel
theorem dX8_told_31 : decode cX8_told 31 = .ok (.getfield 7, 3) := by decide +kernel
theorem dX8_told_34 : decode cX8_told 34 = .ok (.iload_n 1, 1) := by decide +kernel
theorem dX8_told_35 : decode cX8_told 35 = .ok (.iaload, 1) := by decide +kernel
theorem dX8_told_36 : decode cX8_told 36 = .ok (.iconst 3, 1) := by decide +kernel
theorem dX8_told_37 : decode cX8_told 37 = .ok (.if_icmp .ne 12, 3) := by decide +kernel
theorem dX8_told_40 : decode cX8_told 40 = .ok (.aload_n 0, 1) := by decide +kernel
theorem dX8_told_41 : decode cX8_told 41 = .ok (.getfield 20, 3) := by decide +kernel
theorem dX8_told_44 : decode cX8_told 44 = .ok (.iload_n 2, 1) := by decide +kernel
theorem dX8_told_45 : decode cX8_told 45 = .ok (.iaload, 1) := by decide +kernel
theorem dX8_told_46 : decode cX8_told 46 = .ok (.goto 19, 3) := by decide +kernel
theorem dX8_told_49 : decode cX8_told 49 = .ok (.aload_n 0, 1) := by decide +kernel
theorem dX8_told_50 : decode cX8_told 50 = .ok (.getfield 16, 3) := by decide +kernel
theorem dX8_told_53 : decode cX8_told 53 = .ok (.iload_n 2, 1) := by decide +kernel
theorem dX8_told_54 : decode cX8_told 54 = .ok (.baload, 1) := by decide +kernel
theorem dX8_told_55 : decode cX8_told 55 = .ok (.ifCond .eq 8, 3) := by decide +kernel
theorem dX8_told_58 : decode cX8_told 58 = .ok (.bipush 12, 2) := by decide +kernel
theorem dX8_told_60 : decode cX8_told 60 = .ok (.goto 5, 3) := by decide +kernel
theorem dX8_told_63 : decode cX8_told 63 = .ok (.bipush 11, 2) := by decide +kernel
theorem dX8_told_65 : decode cX8_told 65 = .ok (.ireturn, 1) := by decide +kernel
theorem dX8_same_0 : decode cX8_same 0 = .ok (.iload_n 1, 1) := by decide +kernel
theorem dX8_same_1 : decode cX8_same 1 = .ok (.invokestatic 57, 3) := by decide +kernel
theorem dX8_same_4 : decode cX8_same 4 = .ok (.ifCond .eq 5, 3) := by decide +kernel
theorem dX8_same_7 : decode cX8_same 7 = .ok (.iconst (-1), 1) := by decide +kernel
theorem dX8_same_8 : decode cX8_same 8 = .ok (.ireturn, 1) := by decide +kernel
theorem dX8_same_9 : decode cX8_same 9 = .ok (.iconst 0, 1) := by decide +kernel
theorem dX8_same_10 : decode cX8_same 10 = .ok (.istore_n 2, 1) := by decide +kernel
theorem dX8_same_11 : decode cX8_same 11 = .ok (.iconst 0, 1) := by decide +kernel
theorem dX8_same_12 : decode cX8_same 12 = .ok (.istore_n 3, 1) := by decide +kernel
theorem dX8_same_13 : decode cX8_same 13 = .ok (.iload_n 3, 1) := by decide +kernel
theorem dX8_same_14 : decode cX8_same 14 = .ok (.bipush 10, 2) := by decide +kernel
theorem dX8_same_16 : decode cX8_same 16 = .ok (.if_icmp .ge 56, 3) := by decide +kernel
theorem dX8_same_19 : decode cX8_same 19 = .ok (.iload_n 2, 1) := by decide +kernel
theorem dX8_same_20 : decode cX8_same 20 = .ok (.aload_n 0, 1) := by decide +kernel
theorem dX8_same_21 : decode cX8_same 21 = .ok (.getfield 7, 3) := by decide +kernel
theorem dX8_same_24 : decode cX8_same 24 = .ok (.iload_n 1, 1) := by decide +kernel
theorem dX8_same_25 : decode cX8_same 25 = .ok (.iaload, 1) := by decide +kernel
theorem dX8_same_26 : decode cX8_same 26 = .ok (.ifCond .le 37, 3) := by decide +kernel
theorem dX8_same_29 : decode cX8_same 29 = .ok (.aload_n 0, 1) := by decide +kernel
theorem dX8_same_30 : decode cX8_same 30 = .ok (.getfield 7, 3) := by decide +kernel
theorem dX8_same_33 : decode cX8_same 33 = .ok (.iload_n 3, 1) := by decide +kernel
theorem dX8_same_34 : decode cX8_same 34 = .ok (.iaload, 1) := by decide +kernel
theorem dX8_same_35 : decode cX8_same 35 = .ok (.aload_n 0, 1) := by decide +kernel
theorem dX8_same_36 : decode cX8_same 36 = .ok (.getfield 7, 3) := by decide +kernel
theorem dX8_same_39 : decode cX8_same 39 = .ok (.iload_n 1, 1) := by decide +kernel
theorem dX8_same_40 : decode cX8_same 40 = .ok (.iaload, 1) := by decide +kernel
theorem dX8_same_41 : decode cX8_same 41 = .ok (.if_icmp .ne 22, 3) := by decide +kernel
theorem dX8_same_44 : decode cX8_same 44 = .ok (.aload_n 0, 1) := by decide +kernel
theorem dX8_same_45 : decode cX8_same 45 = .ok (.getfield 13, 3) := by decide +kernel
theorem dX8_same_48 : decode cX8_same 48 = .ok (.iload_n 3, 1) := by decide +kernel
theorem dX8_same_49 : decode cX8_same 49 = .ok (.iaload, 1) := by decide +kernel
theorem dX8_same_50 : decode cX8_same 50 = .ok (.aload_n 0, 1) := by decide +kernel
theorem dX8_same_51 : decode cX8_same 51 = .ok (.getfield 13, 3) := by decide +kernel
theorem dX8_same_54 : decode cX8_same 54 = .ok (.iload_n 1, 1) := by decide +kernel
theorem dX8_same_55 : decode cX8_same 55 = .ok (.iaload, 1) := by decide +kernel
theorem dX8_same_56 : decode cX8_same 56 = .ok (.if_icmp .ne 7, 3) := by decide +kernel
theorem dX8_same_59 : decode cX8_same 59 = .ok (.iconst 1, 1) := by decide +kernel
theorem dX8_same_60 : decode cX8_same 60 = .ok (.goto 4, 3) := by decide +kernel
theorem dX8_same_63 : decode cX8_same 63 = .ok (.iconst 0, 1) := by decide +kernel
theorem dX8_same_64 : decode cX8_same 64 = .ok (.iadd, 1) := by decide +kernel
theorem dX8_same_65 : decode cX8_same 65 = .ok (.istore_n 2, 1) := by decide +kernel
theorem dX8_same_66 : decode cX8_same 66 = .ok (.iinc 3 1, 3) := by decide +kernel
theorem dX8_same_69 : decode cX8_same 69 = .ok (.goto (-56), 3) := by decide +kernel
theorem dX8_same_72 : decode cX8_same 72 = .ok (.iload_n 2, 1) := by decide +kernel
theorem dX8_same_73 : decode cX8_same 73 = .ok (.ireturn, 1) := by decide +kernel
theorem dL_law_0 : decode cL_law 0 = .ok (.new 7, 3) := by decide +kernel
theorem dL_law_3 : decode cL_law 3 = .ok (.dup, 1) := by decide +kernel
theorem dL_law_4 : decode cL_law 4 = .ok (.invokespecial 9, 3) := by decide +kernel
theorem dL_law_7 : decode cL_law 7 = .ok (.astore_n 1, 1) := by decide +kernel
theorem dL_law_8 : decode cL_law 8 = .ok (.new 10, 3) := by decide +kernel
theorem dL_law_11 : decode cL_law 11 = .ok (.dup, 1) := by decide +kernel
theorem dL_law_12 : decode cL_law 12 = .ok (.invokespecial 12, 3) := by decide +kernel
theorem dL_law_15 : decode cL_law 15 = .ok (.astore_n 2, 1) := by decide +kernel
theorem dL_law_16 : decode cL_law 16 = .ok (.iconst 0, 1) := by decide +kernel
theorem dL_law_17 : decode cL_law 17 = .ok (.istore_n 3, 1) := by decide +kernel
theorem dL_law_18 : decode cL_law 18 = .ok (.iload_n 3, 1) := by decide +kernel
theorem dL_law_19 : decode cL_law 19 = .ok (.aload_n 0, 1) := by decide +kernel
theorem dL_law_20 : decode cL_law 20 = .ok (.arraylength, 1) := by decide +kernel
theorem dL_law_21 : decode cL_law 21 = .ok (.bipush 6, 2) := by decide +kernel
theorem dL_law_23 : decode cL_law 23 = .ok (.isub, 1) := by decide +kernel
theorem dL_law_24 : decode cL_law 24 = .ok (.if_icmp .gt 1009, 3) := by decide +kernel
theorem dL_law_27 : decode cL_law 27 = .ok (.aload_n 0, 1) := by decide +kernel
theorem dL_law_28 : decode cL_law 28 = .ok (.iload_n 3, 1) := by decide +kernel
theorem dL_law_29 : decode cL_law 29 = .ok (.iaload, 1) := by decide +kernel
theorem dL_law_30 : decode cL_law 30 = .ok (.bipush 31, 2) := by decide +kernel
theorem dL_law_32 : decode cL_law 32 = .ok (.iand, 1) := by decide +kernel
theorem dL_law_33 : decode cL_law 33 = .ok (.tableswitch 994 0 27 #[127, 170, 193, 226, 249, 312, 351, 374, 387, 420, 453, 496, 539, 562, 605, 658, 701, 724, 747, 810, 849, 872, 885, 898, 921, 934, 948, 971], 127) := by decide +kernel
theorem dL_law_160 : decode cL_law 160 = .ok (.aload_n 1, 1) := by decide +kernel
theorem dL_law_161 : decode cL_law 161 = .ok (.aload_n 0, 1) := by decide +kernel
theorem dL_law_162 : decode cL_law 162 = .ok (.iload_n 3, 1) := by decide +kernel
theorem dL_law_163 : decode cL_law 163 = .ok (.iconst 1, 1) := by decide +kernel
theorem dL_law_164 : decode cL_law 164 = .ok (.iadd, 1) := by decide +kernel
theorem dL_law_165 : decode cL_law 165 = .ok (.iaload, 1) := by decide +kernel
theorem dL_law_166 : decode cL_law 166 = .ok (.aload_n 0, 1) := by decide +kernel
theorem dL_law_167 : decode cL_law 167 = .ok (.iload_n 3, 1) := by decide +kernel
theorem dL_law_168 : decode cL_law 168 = .ok (.iconst 2, 1) := by decide +kernel
theorem dL_law_169 : decode cL_law 169 = .ok (.iadd, 1) := by decide +kernel
theorem dL_law_170 : decode cL_law 170 = .ok (.iaload, 1) := by decide +kernel
theorem dL_law_171 : decode cL_law 171 = .ok (.aload_n 0, 1) := by decide +kernel
theorem dL_law_172 : decode cL_law 172 = .ok (.iload_n 3, 1) := by decide +kernel
theorem dL_law_173 : decode cL_law 173 = .ok (.iconst 3, 1) := by decide +kernel
theorem dL_law_174 : decode cL_law 174 = .ok (.iadd, 1) := by decide +kernel
theorem dL_law_175 : decode cL_law 175 = .ok (.iaload, 1) := by decide +kernel
theorem dL_law_176 : decode cL_law 176 = .ok (.invokevirtual 13, 3) := by decide +kernel
theorem dL_law_179 : decode cL_law 179 = .ok (.aload_n 2, 1) := by decide +kernel
theorem dL_law_180 : decode cL_law 180 = .ok (.aload_n 0, 1) := by decide +kernel
theorem dL_law_181 : decode cL_law 181 = .ok (.iload_n 3, 1) := by decide +kernel
theorem dL_law_182 : decode cL_law 182 = .ok (.iconst 1, 1) := by decide +kernel
theorem dL_law_183 : decode cL_law 183 = .ok (.iadd, 1) := by decide +kernel
theorem dL_law_184 : decode cL_law 184 = .ok (.iaload, 1) := by decide +kernel
theorem dL_law_185 : decode cL_law 185 = .ok (.aload_n 0, 1) := by decide +kernel
theorem dL_law_186 : decode cL_law 186 = .ok (.iload_n 3, 1) := by decide +kernel
theorem dL_law_187 : decode cL_law 187 = .ok (.iconst 2, 1) := by decide +kernel
theorem dL_law_188 : decode cL_law 188 = .ok (.iadd, 1) := by decide +kernel
theorem dL_law_189 : decode cL_law 189 = .ok (.iaload, 1) := by decide +kernel
theorem dL_law_190 : decode cL_law 190 = .ok (.aload_n 0, 1) := by decide +kernel
theorem dL_law_191 : decode cL_law 191 = .ok (.iload_n 3, 1) := by decide +kernel
theorem dL_law_192 : decode cL_law 192 = .ok (.iconst 3, 1) := by decide +kernel
theorem dL_law_193 : decode cL_law 193 = .ok (.iadd, 1) := by decide +kernel
theorem dL_law_194 : decode cL_law 194 = .ok (.iaload, 1) := by decide +kernel
theorem dL_law_195 : decode cL_law 195 = .ok (.invokevirtual 17, 3) := by decide +kernel
theorem dL_law_198 : decode cL_law 198 = .ok (.if_icmp .eq 829, 3) := by decide +kernel
theorem dL_law_201 : decode cL_law 201 = .ok (.iconst 0, 1) := by decide +kernel
theorem dL_law_202 : decode cL_law 202 = .ok (.ireturn, 1) := by decide +kernel
theorem dL_law_203 : decode cL_law 203 = .ok (.aload_n 1, 1) := by decide +kernel
theorem dL_law_204 : decode cL_law 204 = .ok (.aload_n 0, 1) := by decide +kernel
theorem dL_law_205 : decode cL_law 205 = .ok (.iload_n 3, 1) := by decide +kernel
theorem dL_law_206 : decode cL_law 206 = .ok (.iconst 1, 1) := by decide +kernel
theorem dL_law_207 : decode cL_law 207 = .ok (.iadd, 1) := by decide +kernel
theorem dL_law_208 : decode cL_law 208 = .ok (.iaload, 1) := by decide +kernel
theorem dL_law_209 : decode cL_law 209 = .ok (.invokevirtual 18, 3) := by decide +kernel
theorem dL_law_212 : decode cL_law 212 = .ok (.aload_n 2, 1) := by decide +kernel
theorem dL_law_213 : decode cL_law 213 = .ok (.aload_n 0, 1) := by decide +kernel
theorem dL_law_214 : decode cL_law 214 = .ok (.iload_n 3, 1) := by decide +kernel
theorem dL_law_215 : decode cL_law 215 = .ok (.iconst 1, 1) := by decide +kernel
theorem dL_law_216 : decode cL_law 216 = .ok (.iadd, 1) := by decide +kernel
theorem dL_law_217 : decode cL_law 217 = .ok (.iaload, 1) := by decide +kernel
theorem dL_law_218 : decode cL_law 218 = .ok (.invokevirtual 22, 3) := by decide +kernel
theorem dL_law_221 : decode cL_law 221 = .ok (.if_icmp .eq 806, 3) := by decide +kernel
theorem dL_law_224 : decode cL_law 224 = .ok (.iconst 0, 1) := by decide +kernel
theorem dL_law_225 : decode cL_law 225 = .ok (.ireturn, 1) := by decide +kernel
theorem dL_law_226 : decode cL_law 226 = .ok (.aload_n 1, 1) := by decide +kernel
theorem dL_law_227 : decode cL_law 227 = .ok (.aload_n 0, 1) := by decide +kernel
theorem dL_law_228 : decode cL_law 228 = .ok (.iload_n 3, 1) := by decide +kernel
theorem dL_law_229 : decode cL_law 229 = .ok (.iconst 1, 1) := by decide +kernel
theorem dL_law_230 : decode cL_law 230 = .ok (.iadd, 1) := by decide +kernel
theorem dL_law_231 : decode cL_law 231 = .ok (.iaload, 1) := by decide +kernel
theorem dL_law_232 : decode cL_law 232 = .ok (.aload_n 0, 1) := by decide +kernel
theorem dL_law_233 : decode cL_law 233 = .ok (.iload_n 3, 1) := by decide +kernel
theorem dL_law_234 : decode cL_law 234 = .ok (.iconst 2, 1) := by decide +kernel
theorem dL_law_235 : decode cL_law 235 = .ok (.iadd, 1) := by decide +kernel
theorem dL_law_236 : decode cL_law 236 = .ok (.iaload, 1) := by decide +kernel
theorem dL_law_237 : decode cL_law 237 = .ok (.invokevirtual 23, 3) := by decide +kernel
theorem dL_law_240 : decode cL_law 240 = .ok (.aload_n 2, 1) := by decide +kernel
theorem dL_law_241 : decode cL_law 241 = .ok (.aload_n 0, 1) := by decide +kernel
theorem dL_law_242 : decode cL_law 242 = .ok (.iload_n 3, 1) := by decide +kernel
theorem dL_law_243 : decode cL_law 243 = .ok (.iconst 1, 1) := by decide +kernel
theorem dL_law_244 : decode cL_law 244 = .ok (.iadd, 1) := by decide +kernel
theorem dL_law_245 : decode cL_law 245 = .ok (.iaload, 1) := by decide +kernel
theorem dL_law_246 : decode cL_law 246 = .ok (.aload_n 0, 1) := by decide +kernel
theorem dL_law_247 : decode cL_law 247 = .ok (.iload_n 3, 1) := by decide +kernel
theorem dL_law_248 : decode cL_law 248 = .ok (.iconst 2, 1) := by decide +kernel
theorem dL_law_249 : decode cL_law 249 = .ok (.iadd, 1) := by decide +kernel
theorem dL_law_250 : decode cL_law 250 = .ok (.iaload, 1) := by decide +kernel
theorem dL_law_251 : decode cL_law 251 = .ok (.invokevirtual 27, 3) := by decide +kernel
theorem dL_law_254 : decode cL_law 254 = .ok (.if_icmp .eq 773, 3) := by decide +kernel
theorem dL_law_257 : decode cL_law 257 = .ok (.iconst 0, 1) := by decide +kernel
theorem dL_law_258 : decode cL_law 258 = .ok (.ireturn, 1) := by decide +kernel
theorem dL_law_259 : decode cL_law 259 = .ok (.aload_n 1, 1) := by decide +kernel
theorem dL_law_260 : decode cL_law 260 = .ok (.aload_n 0, 1) := by decide +kernel
theorem dL_law_261 : decode cL_law 261 = .ok (.iload_n 3, 1) := by decide +kernel
theorem dL_law_262 : decode cL_law 262 = .ok (.iconst 1, 1) := by decide +kernel
theorem dL_law_263 : decode cL_law 263 = .ok (.iadd, 1) := by decide +kernel
theorem dL_law_264 : decode cL_law 264 = .ok (.iaload, 1) := by decide +kernel
theorem dL_law_265 : decode cL_law 265 = .ok (.invokevirtual 28, 3) := by decide +kernel
theorem dL_law_268 : decode cL_law 268 = .ok (.aload_n 2, 1) := by decide +kernel
theorem dL_law_269 : decode cL_law 269 = .ok (.aload_n 0, 1) := by decide +kernel
theorem dL_law_270 : decode cL_law 270 = .ok (.iload_n 3, 1) := by decide +kernel
theorem dL_law_271 : decode cL_law 271 = .ok (.iconst 1, 1) := by decide +kernel
theorem dL_law_272 : decode cL_law 272 = .ok (.iadd, 1) := by decide +kernel
theorem dL_law_273 : decode cL_law 273 = .ok (.iaload, 1) := by decide +kernel
theorem dL_law_274 : decode cL_law 274 = .ok (.invokevirtual 31, 3) := by decide +kernel
theorem dL_law_277 : decode cL_law 277 = .ok (.if_icmp .eq 750, 3) := by decide +kernel
theorem dL_law_280 : decode cL_law 280 = .ok (.iconst 0, 1) := by decide +kernel
theorem dL_law_281 : decode cL_law 281 = .ok (.ireturn, 1) := by decide +kernel
theorem dL_law_282 : decode cL_law 282 = .ok (.aload_n 1, 1) := by decide +kernel
theorem dL_law_283 : decode cL_law 283 = .ok (.aload_n 0, 1) := by decide +kernel
theorem dL_law_284 : decode cL_law 284 = .ok (.iload_n 3, 1) := by decide +kernel
theorem dL_law_285 : decode cL_law 285 = .ok (.iconst 1, 1) := by decide +kernel
theorem dL_law_286 : decode cL_law 286 = .ok (.iadd, 1) := by decide +kernel
theorem dL_law_287 : decode cL_law 287 = .ok (.iaload, 1) := by decide +kernel
theorem dL_law_288 : decode cL_law 288 = .ok (.aload_n 0, 1) := by decide +kernel
theorem dL_law_289 : decode cL_law 289 = .ok (.iload_n 3, 1) := by decide +kernel
theorem dL_law_290 : decode cL_law 290 = .ok (.iconst 2, 1) := by decide +kernel
theorem dL_law_291 : decode cL_law 291 = .ok (.iadd, 1) := by decide +kernel
theorem dL_law_292 : decode cL_law 292 = .ok (.iaload, 1) := by decide +kernel
theorem dL_law_293 : decode cL_law 293 = .ok (.i2l, 1) := by decide +kernel
theorem dL_law_294 : decode cL_law 294 = .ok (.bipush 32, 2) := by decide +kernel
theorem dL_law_296 : decode cL_law 296 = .ok (.lshl, 1) := by decide +kernel
theorem dL_law_297 : decode cL_law 297 = .ok (.aload_n 0, 1) := by decide +kernel
theorem dL_law_298 : decode cL_law 298 = .ok (.iload_n 3, 1) := by decide +kernel
end
section
theorem dL_law_299 : decode cL_law 299 = .ok (.iconst 3, 1) := by decide +kernel
theorem dL_law_300 : decode cL_law 300 = .ok (.iadd, 1) := by decide +kernel
theorem dL_law_301 : decode cL_law 301 = .ok (.iaload, 1) := by decide +kernel
theorem dL_law_302 : decode cL_law 302 = .ok (.i2l, 1) := by decide +kernel
theorem dL_law_303 : decode cL_law 303 = .ok (.ldc2_w 32, 3) := by decide +kernel
theorem dL_law_306 : decode cL_law 306 = .ok (.land, 1) := by decide +kernel
theorem dL_law_307 : decode cL_law 307 = .ok (.lor, 1) := by decide +kernel
theorem dL_law_308 : decode cL_law 308 = .ok (.invokevirtual 34, 3) := by decide +kernel
theorem dL_law_311 : decode cL_law 311 = .ok (.aload_n 2, 1) := by decide +kernel
theorem dL_law_312 : decode cL_law 312 = .ok (.aload_n 0, 1) := by decide +kernel
theorem dL_law_313 : decode cL_law 313 = .ok (.iload_n 3, 1) := by decide +kernel
theorem dL_law_314 : decode cL_law 314 = .ok (.iconst 1, 1) := by decide +kernel
theorem dL_law_315 : decode cL_law 315 = .ok (.iadd, 1) := by decide +kernel
theorem dL_law_316 : decode cL_law 316 = .ok (.iaload, 1) := by decide +kernel
theorem dL_law_317 : decode cL_law 317 = .ok (.aload_n 0, 1) := by decide +kernel
theorem dL_law_318 : decode cL_law 318 = .ok (.iload_n 3, 1) := by decide +kernel
theorem dL_law_319 : decode cL_law 319 = .ok (.iconst 2, 1) := by decide +kernel
theorem dL_law_320 : decode cL_law 320 = .ok (.iadd, 1) := by decide +kernel
theorem dL_law_321 : decode cL_law 321 = .ok (.iaload, 1) := by decide +kernel
theorem dL_law_322 : decode cL_law 322 = .ok (.i2l, 1) := by decide +kernel
theorem dL_law_323 : decode cL_law 323 = .ok (.bipush 32, 2) := by decide +kernel
theorem dL_law_325 : decode cL_law 325 = .ok (.lshl, 1) := by decide +kernel
theorem dL_law_326 : decode cL_law 326 = .ok (.aload_n 0, 1) := by decide +kernel
theorem dL_law_327 : decode cL_law 327 = .ok (.iload_n 3, 1) := by decide +kernel
theorem dL_law_328 : decode cL_law 328 = .ok (.iconst 3, 1) := by decide +kernel
theorem dL_law_329 : decode cL_law 329 = .ok (.iadd, 1) := by decide +kernel
theorem dL_law_330 : decode cL_law 330 = .ok (.iaload, 1) := by decide +kernel
theorem dL_law_331 : decode cL_law 331 = .ok (.i2l, 1) := by decide +kernel
theorem dL_law_332 : decode cL_law 332 = .ok (.ldc2_w 32, 3) := by decide +kernel
theorem dL_law_335 : decode cL_law 335 = .ok (.land, 1) := by decide +kernel
theorem dL_law_336 : decode cL_law 336 = .ok (.lor, 1) := by decide +kernel
theorem dL_law_337 : decode cL_law 337 = .ok (.invokevirtual 38, 3) := by decide +kernel
theorem dL_law_340 : decode cL_law 340 = .ok (.if_icmp .eq 687, 3) := by decide +kernel
theorem dL_law_343 : decode cL_law 343 = .ok (.iconst 0, 1) := by decide +kernel
theorem dL_law_344 : decode cL_law 344 = .ok (.ireturn, 1) := by decide +kernel
theorem dL_law_345 : decode cL_law 345 = .ok (.aload_n 1, 1) := by decide +kernel
theorem dL_law_346 : decode cL_law 346 = .ok (.aload_n 0, 1) := by decide +kernel
theorem dL_law_347 : decode cL_law 347 = .ok (.iload_n 3, 1) := by decide +kernel
theorem dL_law_348 : decode cL_law 348 = .ok (.iconst 1, 1) := by decide +kernel
theorem dL_law_349 : decode cL_law 349 = .ok (.iadd, 1) := by decide +kernel
theorem dL_law_350 : decode cL_law 350 = .ok (.iaload, 1) := by decide +kernel
theorem dL_law_351 : decode cL_law 351 = .ok (.ifCond .eq 7, 3) := by decide +kernel
theorem dL_law_354 : decode cL_law 354 = .ok (.iconst 1, 1) := by decide +kernel
theorem dL_law_355 : decode cL_law 355 = .ok (.goto 4, 3) := by decide +kernel
theorem dL_law_358 : decode cL_law 358 = .ok (.iconst 0, 1) := by decide +kernel
theorem dL_law_359 : decode cL_law 359 = .ok (.invokevirtual 39, 3) := by decide +kernel
theorem dL_law_362 : decode cL_law 362 = .ok (.aload_n 2, 1) := by decide +kernel
theorem dL_law_363 : decode cL_law 363 = .ok (.aload_n 0, 1) := by decide +kernel
theorem dL_law_364 : decode cL_law 364 = .ok (.iload_n 3, 1) := by decide +kernel
theorem dL_law_365 : decode cL_law 365 = .ok (.iconst 1, 1) := by decide +kernel
theorem dL_law_366 : decode cL_law 366 = .ok (.iadd, 1) := by decide +kernel
theorem dL_law_367 : decode cL_law 367 = .ok (.iaload, 1) := by decide +kernel
theorem dL_law_368 : decode cL_law 368 = .ok (.ifCond .eq 7, 3) := by decide +kernel
theorem dL_law_371 : decode cL_law 371 = .ok (.iconst 1, 1) := by decide +kernel
theorem dL_law_372 : decode cL_law 372 = .ok (.goto 4, 3) := by decide +kernel
theorem dL_law_375 : decode cL_law 375 = .ok (.iconst 0, 1) := by decide +kernel
theorem dL_law_376 : decode cL_law 376 = .ok (.invokevirtual 43, 3) := by decide +kernel
theorem dL_law_379 : decode cL_law 379 = .ok (.if_icmp .eq 648, 3) := by decide +kernel
theorem dL_law_382 : decode cL_law 382 = .ok (.iconst 0, 1) := by decide +kernel
theorem dL_law_383 : decode cL_law 383 = .ok (.ireturn, 1) := by decide +kernel
theorem dL_law_384 : decode cL_law 384 = .ok (.aload_n 1, 1) := by decide +kernel
theorem dL_law_385 : decode cL_law 385 = .ok (.aload_n 0, 1) := by decide +kernel
theorem dL_law_386 : decode cL_law 386 = .ok (.iload_n 3, 1) := by decide +kernel
theorem dL_law_387 : decode cL_law 387 = .ok (.iconst 1, 1) := by decide +kernel
theorem dL_law_388 : decode cL_law 388 = .ok (.iadd, 1) := by decide +kernel
theorem dL_law_389 : decode cL_law 389 = .ok (.iaload, 1) := by decide +kernel
theorem dL_law_390 : decode cL_law 390 = .ok (.invokevirtual 44, 3) := by decide +kernel
theorem dL_law_393 : decode cL_law 393 = .ok (.aload_n 2, 1) := by decide +kernel
theorem dL_law_394 : decode cL_law 394 = .ok (.aload_n 0, 1) := by decide +kernel
theorem dL_law_395 : decode cL_law 395 = .ok (.iload_n 3, 1) := by decide +kernel
theorem dL_law_396 : decode cL_law 396 = .ok (.iconst 1, 1) := by decide +kernel
theorem dL_law_397 : decode cL_law 397 = .ok (.iadd, 1) := by decide +kernel
theorem dL_law_398 : decode cL_law 398 = .ok (.iaload, 1) := by decide +kernel
theorem dL_law_399 : decode cL_law 399 = .ok (.invokevirtual 47, 3) := by decide +kernel
theorem dL_law_402 : decode cL_law 402 = .ok (.if_icmp .eq 625, 3) := by decide +kernel
theorem dL_law_405 : decode cL_law 405 = .ok (.iconst 0, 1) := by decide +kernel
theorem dL_law_406 : decode cL_law 406 = .ok (.ireturn, 1) := by decide +kernel
theorem dL_law_407 : decode cL_law 407 = .ok (.aload_n 1, 1) := by decide +kernel
theorem dL_law_408 : decode cL_law 408 = .ok (.invokevirtual 48, 3) := by decide +kernel
theorem dL_law_411 : decode cL_law 411 = .ok (.aload_n 2, 1) := by decide +kernel
theorem dL_law_412 : decode cL_law 412 = .ok (.invokevirtual 52, 3) := by decide +kernel
theorem dL_law_415 : decode cL_law 415 = .ok (.if_icmp .eq 612, 3) := by decide +kernel
theorem dL_law_418 : decode cL_law 418 = .ok (.iconst 0, 1) := by decide +kernel
theorem dL_law_419 : decode cL_law 419 = .ok (.ireturn, 1) := by decide +kernel
theorem dL_law_420 : decode cL_law 420 = .ok (.aload_n 1, 1) := by decide +kernel
theorem dL_law_421 : decode cL_law 421 = .ok (.aload_n 0, 1) := by decide +kernel
theorem dL_law_422 : decode cL_law 422 = .ok (.iload_n 3, 1) := by decide +kernel
theorem dL_law_423 : decode cL_law 423 = .ok (.iconst 1, 1) := by decide +kernel
theorem dL_law_424 : decode cL_law 424 = .ok (.iadd, 1) := by decide +kernel
theorem dL_law_425 : decode cL_law 425 = .ok (.iaload, 1) := by decide +kernel
theorem dL_law_426 : decode cL_law 426 = .ok (.aload_n 0, 1) := by decide +kernel
theorem dL_law_427 : decode cL_law 427 = .ok (.iload_n 3, 1) := by decide +kernel
theorem dL_law_428 : decode cL_law 428 = .ok (.iconst 2, 1) := by decide +kernel
theorem dL_law_429 : decode cL_law 429 = .ok (.iadd, 1) := by decide +kernel
theorem dL_law_430 : decode cL_law 430 = .ok (.iaload, 1) := by decide +kernel
theorem dL_law_431 : decode cL_law 431 = .ok (.invokevirtual 53, 3) := by decide +kernel
theorem dL_law_434 : decode cL_law 434 = .ok (.aload_n 2, 1) := by decide +kernel
theorem dL_law_435 : decode cL_law 435 = .ok (.aload_n 0, 1) := by decide +kernel
theorem dL_law_436 : decode cL_law 436 = .ok (.iload_n 3, 1) := by decide +kernel
theorem dL_law_437 : decode cL_law 437 = .ok (.iconst 1, 1) := by decide +kernel
theorem dL_law_438 : decode cL_law 438 = .ok (.iadd, 1) := by decide +kernel
theorem dL_law_439 : decode cL_law 439 = .ok (.iaload, 1) := by decide +kernel
theorem dL_law_440 : decode cL_law 440 = .ok (.aload_n 0, 1) := by decide +kernel
theorem dL_law_441 : decode cL_law 441 = .ok (.iload_n 3, 1) := by decide +kernel
theorem dL_law_442 : decode cL_law 442 = .ok (.iconst 2, 1) := by decide +kernel
theorem dL_law_443 : decode cL_law 443 = .ok (.iadd, 1) := by decide +kernel
theorem dL_law_444 : decode cL_law 444 = .ok (.iaload, 1) := by decide +kernel
theorem dL_law_445 : decode cL_law 445 = .ok (.invokevirtual 56, 3) := by decide +kernel
theorem dL_law_448 : decode cL_law 448 = .ok (.if_icmp .eq 579, 3) := by decide +kernel
theorem dL_law_451 : decode cL_law 451 = .ok (.iconst 0, 1) := by decide +kernel
theorem dL_law_452 : decode cL_law 452 = .ok (.ireturn, 1) := by decide +kernel
theorem dL_law_453 : decode cL_law 453 = .ok (.aload_n 1, 1) := by decide +kernel
theorem dL_law_454 : decode cL_law 454 = .ok (.aload_n 0, 1) := by decide +kernel
theorem dL_law_455 : decode cL_law 455 = .ok (.iload_n 3, 1) := by decide +kernel
theorem dL_law_456 : decode cL_law 456 = .ok (.iconst 1, 1) := by decide +kernel
theorem dL_law_457 : decode cL_law 457 = .ok (.iadd, 1) := by decide +kernel
theorem dL_law_458 : decode cL_law 458 = .ok (.iaload, 1) := by decide +kernel
theorem dL_law_459 : decode cL_law 459 = .ok (.aload_n 0, 1) := by decide +kernel
theorem dL_law_460 : decode cL_law 460 = .ok (.iload_n 3, 1) := by decide +kernel
theorem dL_law_461 : decode cL_law 461 = .ok (.iconst 2, 1) := by decide +kernel
theorem dL_law_462 : decode cL_law 462 = .ok (.iadd, 1) := by decide +kernel
theorem dL_law_463 : decode cL_law 463 = .ok (.iaload, 1) := by decide +kernel
theorem dL_law_464 : decode cL_law 464 = .ok (.invokevirtual 57, 3) := by decide +kernel
theorem dL_law_467 : decode cL_law 467 = .ok (.aload_n 2, 1) := by decide +kernel
theorem dL_law_468 : decode cL_law 468 = .ok (.aload_n 0, 1) := by decide +kernel
theorem dL_law_469 : decode cL_law 469 = .ok (.iload_n 3, 1) := by decide +kernel
theorem dL_law_470 : decode cL_law 470 = .ok (.iconst 1, 1) := by decide +kernel
theorem dL_law_471 : decode cL_law 471 = .ok (.iadd, 1) := by decide +kernel
theorem dL_law_472 : decode cL_law 472 = .ok (.iaload, 1) := by decide +kernel
theorem dL_law_473 : decode cL_law 473 = .ok (.aload_n 0, 1) := by decide +kernel
theorem dL_law_474 : decode cL_law 474 = .ok (.iload_n 3, 1) := by decide +kernel
theorem dL_law_475 : decode cL_law 475 = .ok (.iconst 2, 1) := by decide +kernel
theorem dL_law_476 : decode cL_law 476 = .ok (.iadd, 1) := by decide +kernel
theorem dL_law_477 : decode cL_law 477 = .ok (.iaload, 1) := by decide +kernel
theorem dL_law_478 : decode cL_law 478 = .ok (.invokevirtual 60, 3) := by decide +kernel
theorem dL_law_481 : decode cL_law 481 = .ok (.if_icmp .eq 546, 3) := by decide +kernel
theorem dL_law_484 : decode cL_law 484 = .ok (.iconst 0, 1) := by decide +kernel
theorem dL_law_485 : decode cL_law 485 = .ok (.ireturn, 1) := by decide +kernel
theorem dL_law_486 : decode cL_law 486 = .ok (.aload_n 1, 1) := by decide +kernel
theorem dL_law_487 : decode cL_law 487 = .ok (.aload_n 0, 1) := by decide +kernel
theorem dL_law_488 : decode cL_law 488 = .ok (.iload_n 3, 1) := by decide +kernel
theorem dL_law_489 : decode cL_law 489 = .ok (.iconst 1, 1) := by decide +kernel
theorem dL_law_490 : decode cL_law 490 = .ok (.iadd, 1) := by decide +kernel
theorem dL_law_491 : decode cL_law 491 = .ok (.iaload, 1) := by decide +kernel
theorem dL_law_492 : decode cL_law 492 = .ok (.aload_n 0, 1) := by decide +kernel
theorem dL_law_493 : decode cL_law 493 = .ok (.iload_n 3, 1) := by decide +kernel
theorem dL_law_494 : decode cL_law 494 = .ok (.iconst 2, 1) := by decide +kernel
theorem dL_law_495 : decode cL_law 495 = .ok (.iadd, 1) := by decide +kernel
theorem dL_law_496 : decode cL_law 496 = .ok (.iaload, 1) := by decide +kernel
theorem dL_law_497 : decode cL_law 497 = .ok (.aload_n 0, 1) := by decide +kernel
theorem dL_law_498 : decode cL_law 498 = .ok (.iload_n 3, 1) := by decide +kernel
theorem dL_law_499 : decode cL_law 499 = .ok (.iconst 3, 1) := by decide +kernel
theorem dL_law_500 : decode cL_law 500 = .ok (.iadd, 1) := by decide +kernel
theorem dL_law_501 : decode cL_law 501 = .ok (.iaload, 1) := by decide +kernel
theorem dL_law_502 : decode cL_law 502 = .ok (.invokevirtual 61, 3) := by decide +kernel
theorem dL_law_505 : decode cL_law 505 = .ok (.aload_n 2, 1) := by decide +kernel
theorem dL_law_506 : decode cL_law 506 = .ok (.aload_n 0, 1) := by decide +kernel
theorem dL_law_507 : decode cL_law 507 = .ok (.iload_n 3, 1) := by decide +kernel
theorem dL_law_508 : decode cL_law 508 = .ok (.iconst 1, 1) := by decide +kernel
theorem dL_law_509 : decode cL_law 509 = .ok (.iadd, 1) := by decide +kernel
theorem dL_law_510 : decode cL_law 510 = .ok (.iaload, 1) := by decide +kernel
theorem dL_law_511 : decode cL_law 511 = .ok (.aload_n 0, 1) := by decide +kernel
theorem dL_law_512 : decode cL_law 512 = .ok (.iload_n 3, 1) := by decide +kernel
theorem dL_law_513 : decode cL_law 513 = .ok (.iconst 2, 1) := by decide +kernel
theorem dL_law_514 : decode cL_law 514 = .ok (.iadd, 1) := by decide +kernel
theorem dL_law_515 : decode cL_law 515 = .ok (.iaload, 1) := by decide +kernel
theorem dL_law_516 : decode cL_law 516 = .ok (.aload_n 0, 1) := by decide +kernel
theorem dL_law_517 : decode cL_law 517 = .ok (.iload_n 3, 1) := by decide +kernel
theorem dL_law_518 : decode cL_law 518 = .ok (.iconst 3, 1) := by decide +kernel
theorem dL_law_519 : decode cL_law 519 = .ok (.iadd, 1) := by decide +kernel
theorem dL_law_520 : decode cL_law 520 = .ok (.iaload, 1) := by decide +kernel
theorem dL_law_521 : decode cL_law 521 = .ok (.invokevirtual 64, 3) := by decide +kernel
theorem dL_law_524 : decode cL_law 524 = .ok (.if_icmp .eq 503, 3) := by decide +kernel
theorem dL_law_527 : decode cL_law 527 = .ok (.iconst 0, 1) := by decide +kernel
theorem dL_law_528 : decode cL_law 528 = .ok (.ireturn, 1) := by decide +kernel
theorem dL_law_529 : decode cL_law 529 = .ok (.aload_n 1, 1) := by decide +kernel
theorem dL_law_530 : decode cL_law 530 = .ok (.aload_n 0, 1) := by decide +kernel
theorem dL_law_531 : decode cL_law 531 = .ok (.iload_n 3, 1) := by decide +kernel
theorem dL_law_532 : decode cL_law 532 = .ok (.iconst 1, 1) := by decide +kernel
theorem dL_law_533 : decode cL_law 533 = .ok (.iadd, 1) := by decide +kernel
theorem dL_law_534 : decode cL_law 534 = .ok (.iaload, 1) := by decide +kernel
theorem dL_law_535 : decode cL_law 535 = .ok (.aload_n 0, 1) := by decide +kernel
theorem dL_law_536 : decode cL_law 536 = .ok (.iload_n 3, 1) := by decide +kernel
theorem dL_law_537 : decode cL_law 537 = .ok (.iconst 2, 1) := by decide +kernel
theorem dL_law_538 : decode cL_law 538 = .ok (.iadd, 1) := by decide +kernel
theorem dL_law_539 : decode cL_law 539 = .ok (.iaload, 1) := by decide +kernel
theorem dL_law_540 : decode cL_law 540 = .ok (.aload_n 0, 1) := by decide +kernel
theorem dL_law_541 : decode cL_law 541 = .ok (.iload_n 3, 1) := by decide +kernel
theorem dL_law_542 : decode cL_law 542 = .ok (.iconst 3, 1) := by decide +kernel
theorem dL_law_543 : decode cL_law 543 = .ok (.iadd, 1) := by decide +kernel
theorem dL_law_544 : decode cL_law 544 = .ok (.iaload, 1) := by decide +kernel
theorem dL_law_545 : decode cL_law 545 = .ok (.invokevirtual 65, 3) := by decide +kernel
theorem dL_law_548 : decode cL_law 548 = .ok (.aload_n 2, 1) := by decide +kernel
theorem dL_law_549 : decode cL_law 549 = .ok (.aload_n 0, 1) := by decide +kernel
theorem dL_law_550 : decode cL_law 550 = .ok (.iload_n 3, 1) := by decide +kernel
theorem dL_law_551 : decode cL_law 551 = .ok (.iconst 1, 1) := by decide +kernel
theorem dL_law_552 : decode cL_law 552 = .ok (.iadd, 1) := by decide +kernel
theorem dL_law_553 : decode cL_law 553 = .ok (.iaload, 1) := by decide +kernel
theorem dL_law_554 : decode cL_law 554 = .ok (.aload_n 0, 1) := by decide +kernel
theorem dL_law_555 : decode cL_law 555 = .ok (.iload_n 3, 1) := by decide +kernel
theorem dL_law_556 : decode cL_law 556 = .ok (.iconst 2, 1) := by decide +kernel
theorem dL_law_557 : decode cL_law 557 = .ok (.iadd, 1) := by decide +kernel
theorem dL_law_558 : decode cL_law 558 = .ok (.iaload, 1) := by decide +kernel
theorem dL_law_559 : decode cL_law 559 = .ok (.aload_n 0, 1) := by decide +kernel
theorem dL_law_560 : decode cL_law 560 = .ok (.iload_n 3, 1) := by decide +kernel
theorem dL_law_561 : decode cL_law 561 = .ok (.iconst 3, 1) := by decide +kernel
theorem dL_law_562 : decode cL_law 562 = .ok (.iadd, 1) := by decide +kernel
theorem dL_law_563 : decode cL_law 563 = .ok (.iaload, 1) := by decide +kernel
theorem dL_law_564 : decode cL_law 564 = .ok (.invokevirtual 68, 3) := by decide +kernel
theorem dL_law_567 : decode cL_law 567 = .ok (.if_icmp .eq 460, 3) := by decide +kernel
theorem dL_law_570 : decode cL_law 570 = .ok (.iconst 0, 1) := by decide +kernel
theorem dL_law_571 : decode cL_law 571 = .ok (.ireturn, 1) := by decide +kernel
theorem dL_law_572 : decode cL_law 572 = .ok (.aload_n 1, 1) := by decide +kernel
theorem dL_law_573 : decode cL_law 573 = .ok (.aload_n 0, 1) := by decide +kernel
theorem dL_law_574 : decode cL_law 574 = .ok (.iload_n 3, 1) := by decide +kernel
theorem dL_law_575 : decode cL_law 575 = .ok (.iconst 1, 1) := by decide +kernel
theorem dL_law_576 : decode cL_law 576 = .ok (.iadd, 1) := by decide +kernel
theorem dL_law_577 : decode cL_law 577 = .ok (.iaload, 1) := by decide +kernel
theorem dL_law_578 : decode cL_law 578 = .ok (.invokevirtual 69, 3) := by decide +kernel
theorem dL_law_581 : decode cL_law 581 = .ok (.aload_n 2, 1) := by decide +kernel
theorem dL_law_582 : decode cL_law 582 = .ok (.aload_n 0, 1) := by decide +kernel
theorem dL_law_583 : decode cL_law 583 = .ok (.iload_n 3, 1) := by decide +kernel
theorem dL_law_584 : decode cL_law 584 = .ok (.iconst 1, 1) := by decide +kernel
theorem dL_law_585 : decode cL_law 585 = .ok (.iadd, 1) := by decide +kernel
theorem dL_law_586 : decode cL_law 586 = .ok (.iaload, 1) := by decide +kernel
theorem dL_law_587 : decode cL_law 587 = .ok (.invokevirtual 72, 3) := by decide +kernel
theorem dL_law_590 : decode cL_law 590 = .ok (.if_icmp .eq 437, 3) := by decide +kernel
theorem dL_law_593 : decode cL_law 593 = .ok (.iconst 0, 1) := by decide +kernel
theorem dL_law_594 : decode cL_law 594 = .ok (.ireturn, 1) := by decide +kernel
theorem dL_law_595 : decode cL_law 595 = .ok (.aload_n 1, 1) := by decide +kernel
theorem dL_law_596 : decode cL_law 596 = .ok (.aload_n 0, 1) := by decide +kernel
theorem dL_law_597 : decode cL_law 597 = .ok (.iload_n 3, 1) := by decide +kernel
theorem dL_law_598 : decode cL_law 598 = .ok (.iconst 1, 1) := by decide +kernel
theorem dL_law_599 : decode cL_law 599 = .ok (.iadd, 1) := by decide +kernel
theorem dL_law_600 : decode cL_law 600 = .ok (.iaload, 1) := by decide +kernel
theorem dL_law_601 : decode cL_law 601 = .ok (.aload_n 0, 1) := by decide +kernel
theorem dL_law_602 : decode cL_law 602 = .ok (.iload_n 3, 1) := by decide +kernel
theorem dL_law_603 : decode cL_law 603 = .ok (.iconst 2, 1) := by decide +kernel
theorem dL_law_604 : decode cL_law 604 = .ok (.iadd, 1) := by decide +kernel
theorem dL_law_605 : decode cL_law 605 = .ok (.iaload, 1) := by decide +kernel
theorem dL_law_606 : decode cL_law 606 = .ok (.aload_n 0, 1) := by decide +kernel
theorem dL_law_607 : decode cL_law 607 = .ok (.iload_n 3, 1) := by decide +kernel
theorem dL_law_608 : decode cL_law 608 = .ok (.iconst 3, 1) := by decide +kernel
theorem dL_law_609 : decode cL_law 609 = .ok (.iadd, 1) := by decide +kernel
theorem dL_law_610 : decode cL_law 610 = .ok (.iaload, 1) := by decide +kernel
theorem dL_law_611 : decode cL_law 611 = .ok (.invokevirtual 73, 3) := by decide +kernel
theorem dL_law_614 : decode cL_law 614 = .ok (.aload_n 2, 1) := by decide +kernel
theorem dL_law_615 : decode cL_law 615 = .ok (.aload_n 0, 1) := by decide +kernel
theorem dL_law_616 : decode cL_law 616 = .ok (.iload_n 3, 1) := by decide +kernel
theorem dL_law_617 : decode cL_law 617 = .ok (.iconst 1, 1) := by decide +kernel
theorem dL_law_618 : decode cL_law 618 = .ok (.iadd, 1) := by decide +kernel
theorem dL_law_619 : decode cL_law 619 = .ok (.iaload, 1) := by decide +kernel
theorem dL_law_620 : decode cL_law 620 = .ok (.aload_n 0, 1) := by decide +kernel
theorem dL_law_621 : decode cL_law 621 = .ok (.iload_n 3, 1) := by decide +kernel
theorem dL_law_622 : decode cL_law 622 = .ok (.iconst 2, 1) := by decide +kernel
theorem dL_law_623 : decode cL_law 623 = .ok (.iadd, 1) := by decide +kernel
theorem dL_law_624 : decode cL_law 624 = .ok (.iaload, 1) := by decide +kernel
theorem dL_law_625 : decode cL_law 625 = .ok (.aload_n 0, 1) := by decide +kernel
theorem dL_law_626 : decode cL_law 626 = .ok (.iload_n 3, 1) := by decide +kernel
theorem dL_law_627 : decode cL_law 627 = .ok (.iconst 3, 1) := by decide +kernel
theorem dL_law_628 : decode cL_law 628 = .ok (.iadd, 1) := by decide +kernel
theorem dL_law_629 : decode cL_law 629 = .ok (.iaload, 1) := by decide +kernel
theorem dL_law_630 : decode cL_law 630 = .ok (.invokevirtual 76, 3) := by decide +kernel
theorem dL_law_633 : decode cL_law 633 = .ok (.if_icmp .eq 394, 3) := by decide +kernel
theorem dL_law_636 : decode cL_law 636 = .ok (.iconst 0, 1) := by decide +kernel
theorem dL_law_637 : decode cL_law 637 = .ok (.ireturn, 1) := by decide +kernel
theorem dL_law_638 : decode cL_law 638 = .ok (.aload_n 1, 1) := by decide +kernel
theorem dL_law_639 : decode cL_law 639 = .ok (.aload_n 0, 1) := by decide +kernel
theorem dL_law_640 : decode cL_law 640 = .ok (.iload_n 3, 1) := by decide +kernel
theorem dL_law_641 : decode cL_law 641 = .ok (.iconst 1, 1) := by decide +kernel
theorem dL_law_642 : decode cL_law 642 = .ok (.iadd, 1) := by decide +kernel
theorem dL_law_643 : decode cL_law 643 = .ok (.iaload, 1) := by decide +kernel
theorem dL_law_644 : decode cL_law 644 = .ok (.aload_n 0, 1) := by decide +kernel
theorem dL_law_645 : decode cL_law 645 = .ok (.iload_n 3, 1) := by decide +kernel
theorem dL_law_646 : decode cL_law 646 = .ok (.iconst 2, 1) := by decide +kernel
theorem dL_law_647 : decode cL_law 647 = .ok (.iadd, 1) := by decide +kernel
theorem dL_law_648 : decode cL_law 648 = .ok (.iaload, 1) := by decide +kernel
theorem dL_law_649 : decode cL_law 649 = .ok (.aload_n 0, 1) := by decide +kernel
theorem dL_law_650 : decode cL_law 650 = .ok (.iload_n 3, 1) := by decide +kernel
theorem dL_law_651 : decode cL_law 651 = .ok (.iconst 3, 1) := by decide +kernel
theorem dL_law_652 : decode cL_law 652 = .ok (.iadd, 1) := by decide +kernel
theorem dL_law_653 : decode cL_law 653 = .ok (.iaload, 1) := by decide +kernel
theorem dL_law_654 : decode cL_law 654 = .ok (.aload_n 0, 1) := by decide +kernel
theorem dL_law_655 : decode cL_law 655 = .ok (.iload_n 3, 1) := by decide +kernel
theorem dL_law_656 : decode cL_law 656 = .ok (.iconst 4, 1) := by decide +kernel
theorem dL_law_657 : decode cL_law 657 = .ok (.iadd, 1) := by decide +kernel
theorem dL_law_658 : decode cL_law 658 = .ok (.iaload, 1) := by decide +kernel
theorem dL_law_659 : decode cL_law 659 = .ok (.invokevirtual 77, 3) := by decide +kernel
theorem dL_law_662 : decode cL_law 662 = .ok (.aload_n 2, 1) := by decide +kernel
theorem dL_law_663 : decode cL_law 663 = .ok (.aload_n 0, 1) := by decide +kernel
theorem dL_law_664 : decode cL_law 664 = .ok (.iload_n 3, 1) := by decide +kernel
theorem dL_law_665 : decode cL_law 665 = .ok (.iconst 1, 1) := by decide +kernel
theorem dL_law_666 : decode cL_law 666 = .ok (.iadd, 1) := by decide +kernel
theorem dL_law_667 : decode cL_law 667 = .ok (.iaload, 1) := by decide +kernel
theorem dL_law_668 : decode cL_law 668 = .ok (.aload_n 0, 1) := by decide +kernel
theorem dL_law_669 : decode cL_law 669 = .ok (.iload_n 3, 1) := by decide +kernel
theorem dL_law_670 : decode cL_law 670 = .ok (.iconst 2, 1) := by decide +kernel
theorem dL_law_671 : decode cL_law 671 = .ok (.iadd, 1) := by decide +kernel
theorem dL_law_672 : decode cL_law 672 = .ok (.iaload, 1) := by decide +kernel
theorem dL_law_673 : decode cL_law 673 = .ok (.aload_n 0, 1) := by decide +kernel
theorem dL_law_674 : decode cL_law 674 = .ok (.iload_n 3, 1) := by decide +kernel
theorem dL_law_675 : decode cL_law 675 = .ok (.iconst 3, 1) := by decide +kernel
theorem dL_law_676 : decode cL_law 676 = .ok (.iadd, 1) := by decide +kernel
theorem dL_law_677 : decode cL_law 677 = .ok (.iaload, 1) := by decide +kernel
theorem dL_law_678 : decode cL_law 678 = .ok (.aload_n 0, 1) := by decide +kernel
theorem dL_law_679 : decode cL_law 679 = .ok (.iload_n 3, 1) := by decide +kernel
theorem dL_law_680 : decode cL_law 680 = .ok (.iconst 4, 1) := by decide +kernel
theorem dL_law_681 : decode cL_law 681 = .ok (.iadd, 1) := by decide +kernel
theorem dL_law_682 : decode cL_law 682 = .ok (.iaload, 1) := by decide +kernel
theorem dL_law_683 : decode cL_law 683 = .ok (.invokevirtual 81, 3) := by decide +kernel
theorem dL_law_686 : decode cL_law 686 = .ok (.if_icmp .eq 341, 3) := by decide +kernel
theorem dL_law_689 : decode cL_law 689 = .ok (.iconst 0, 1) := by decide +kernel
theorem dL_law_690 : decode cL_law 690 = .ok (.ireturn, 1) := by decide +kernel
theorem dL_law_691 : decode cL_law 691 = .ok (.aload_n 1, 1) := by decide +kernel
theorem dL_law_692 : decode cL_law 692 = .ok (.aload_n 0, 1) := by decide +kernel
theorem dL_law_693 : decode cL_law 693 = .ok (.iload_n 3, 1) := by decide +kernel
theorem dL_law_694 : decode cL_law 694 = .ok (.iconst 1, 1) := by decide +kernel
theorem dL_law_695 : decode cL_law 695 = .ok (.iadd, 1) := by decide +kernel
theorem dL_law_696 : decode cL_law 696 = .ok (.iaload, 1) := by decide +kernel
theorem dL_law_697 : decode cL_law 697 = .ok (.aload_n 0, 1) := by decide +kernel
theorem dL_law_698 : decode cL_law 698 = .ok (.iload_n 3, 1) := by decide +kernel
theorem dL_law_699 : decode cL_law 699 = .ok (.iconst 2, 1) := by decide +kernel
theorem dL_law_700 : decode cL_law 700 = .ok (.iadd, 1) := by decide +kernel
theorem dL_law_701 : decode cL_law 701 = .ok (.iaload, 1) := by decide +kernel
theorem dL_law_702 : decode cL_law 702 = .ok (.aload_n 0, 1) := by decide +kernel
theorem dL_law_703 : decode cL_law 703 = .ok (.iload_n 3, 1) := by decide +kernel
theorem dL_law_704 : decode cL_law 704 = .ok (.iconst 3, 1) := by decide +kernel
theorem dL_law_705 : decode cL_law 705 = .ok (.iadd, 1) := by decide +kernel
theorem dL_law_706 : decode cL_law 706 = .ok (.iaload, 1) := by decide +kernel
theorem dL_law_707 : decode cL_law 707 = .ok (.invokevirtual 82, 3) := by decide +kernel
theorem dL_law_710 : decode cL_law 710 = .ok (.aload_n 2, 1) := by decide +kernel
theorem dL_law_711 : decode cL_law 711 = .ok (.aload_n 0, 1) := by decide +kernel
theorem dL_law_712 : decode cL_law 712 = .ok (.iload_n 3, 1) := by decide +kernel
theorem dL_law_713 : decode cL_law 713 = .ok (.iconst 1, 1) := by decide +kernel
theorem dL_law_714 : decode cL_law 714 = .ok (.iadd, 1) := by decide +kernel
theorem dL_law_715 : decode cL_law 715 = .ok (.iaload, 1) := by decide +kernel
theorem dL_law_716 : decode cL_law 716 = .ok (.aload_n 0, 1) := by decide +kernel
theorem dL_law_717 : decode cL_law 717 = .ok (.iload_n 3, 1) := by decide +kernel
theorem dL_law_718 : decode cL_law 718 = .ok (.iconst 2, 1) := by decide +kernel
theorem dL_law_719 : decode cL_law 719 = .ok (.iadd, 1) := by decide +kernel
theorem dL_law_720 : decode cL_law 720 = .ok (.iaload, 1) := by decide +kernel
theorem dL_law_721 : decode cL_law 721 = .ok (.aload_n 0, 1) := by decide +kernel
theorem dL_law_722 : decode cL_law 722 = .ok (.iload_n 3, 1) := by decide +kernel
theorem dL_law_723 : decode cL_law 723 = .ok (.iconst 3, 1) := by decide +kernel
theorem dL_law_724 : decode cL_law 724 = .ok (.iadd, 1) := by decide +kernel
theorem dL_law_725 : decode cL_law 725 = .ok (.iaload, 1) := by decide +kernel
theorem dL_law_726 : decode cL_law 726 = .ok (.invokevirtual 85, 3) := by decide +kernel
theorem dL_law_729 : decode cL_law 729 = .ok (.if_icmp .eq 298, 3) := by decide +kernel
theorem dL_law_732 : decode cL_law 732 = .ok (.iconst 0, 1) := by decide +kernel
theorem dL_law_733 : decode cL_law 733 = .ok (.ireturn, 1) := by decide +kernel
theorem dL_law_734 : decode cL_law 734 = .ok (.aload_n 1, 1) := by decide +kernel
theorem dL_law_735 : decode cL_law 735 = .ok (.aload_n 0, 1) := by decide +kernel
theorem dL_law_736 : decode cL_law 736 = .ok (.iload_n 3, 1) := by decide +kernel
theorem dL_law_737 : decode cL_law 737 = .ok (.iconst 1, 1) := by decide +kernel
theorem dL_law_738 : decode cL_law 738 = .ok (.iadd, 1) := by decide +kernel
theorem dL_law_739 : decode cL_law 739 = .ok (.iaload, 1) := by decide +kernel
theorem dL_law_740 : decode cL_law 740 = .ok (.invokevirtual 86, 3) := by decide +kernel
theorem dL_law_743 : decode cL_law 743 = .ok (.aload_n 2, 1) := by decide +kernel
theorem dL_law_744 : decode cL_law 744 = .ok (.aload_n 0, 1) := by decide +kernel
theorem dL_law_745 : decode cL_law 745 = .ok (.iload_n 3, 1) := by decide +kernel
theorem dL_law_746 : decode cL_law 746 = .ok (.iconst 1, 1) := by decide +kernel
theorem dL_law_747 : decode cL_law 747 = .ok (.iadd, 1) := by decide +kernel
theorem dL_law_748 : decode cL_law 748 = .ok (.iaload, 1) := by decide +kernel
theorem dL_law_749 : decode cL_law 749 = .ok (.invokevirtual 89, 3) := by decide +kernel
theorem dL_law_752 : decode cL_law 752 = .ok (.if_icmp .eq 275, 3) := by decide +kernel
theorem dL_law_755 : decode cL_law 755 = .ok (.iconst 0, 1) := by decide +kernel
theorem dL_law_756 : decode cL_law 756 = .ok (.ireturn, 1) := by decide +kernel
theorem dL_law_757 : decode cL_law 757 = .ok (.aload_n 1, 1) := by decide +kernel
theorem dL_law_758 : decode cL_law 758 = .ok (.aload_n 0, 1) := by decide +kernel
theorem dL_law_759 : decode cL_law 759 = .ok (.iload_n 3, 1) := by decide +kernel
theorem dL_law_760 : decode cL_law 760 = .ok (.iconst 1, 1) := by decide +kernel
theorem dL_law_761 : decode cL_law 761 = .ok (.iadd, 1) := by decide +kernel
theorem dL_law_762 : decode cL_law 762 = .ok (.iaload, 1) := by decide +kernel
theorem dL_law_763 : decode cL_law 763 = .ok (.invokevirtual 90, 3) := by decide +kernel
theorem dL_law_766 : decode cL_law 766 = .ok (.aload_n 2, 1) := by decide +kernel
theorem dL_law_767 : decode cL_law 767 = .ok (.aload_n 0, 1) := by decide +kernel
theorem dL_law_768 : decode cL_law 768 = .ok (.iload_n 3, 1) := by decide +kernel
theorem dL_law_769 : decode cL_law 769 = .ok (.iconst 1, 1) := by decide +kernel
theorem dL_law_770 : decode cL_law 770 = .ok (.iadd, 1) := by decide +kernel
theorem dL_law_771 : decode cL_law 771 = .ok (.iaload, 1) := by decide +kernel
theorem dL_law_772 : decode cL_law 772 = .ok (.invokevirtual 93, 3) := by decide +kernel
theorem dL_law_775 : decode cL_law 775 = .ok (.if_icmp .eq 252, 3) := by decide +kernel
theorem dL_law_778 : decode cL_law 778 = .ok (.iconst 0, 1) := by decide +kernel
theorem dL_law_779 : decode cL_law 779 = .ok (.ireturn, 1) := by decide +kernel
theorem dL_law_780 : decode cL_law 780 = .ok (.aload_n 1, 1) := by decide +kernel
theorem dL_law_781 : decode cL_law 781 = .ok (.aload_n 0, 1) := by decide +kernel
theorem dL_law_782 : decode cL_law 782 = .ok (.iload_n 3, 1) := by decide +kernel
theorem dL_law_783 : decode cL_law 783 = .ok (.iconst 1, 1) := by decide +kernel
theorem dL_law_784 : decode cL_law 784 = .ok (.iadd, 1) := by decide +kernel
theorem dL_law_785 : decode cL_law 785 = .ok (.iaload, 1) := by decide +kernel
theorem dL_law_786 : decode cL_law 786 = .ok (.aload_n 0, 1) := by decide +kernel
theorem dL_law_787 : decode cL_law 787 = .ok (.iload_n 3, 1) := by decide +kernel
theorem dL_law_788 : decode cL_law 788 = .ok (.iconst 2, 1) := by decide +kernel
theorem dL_law_789 : decode cL_law 789 = .ok (.iadd, 1) := by decide +kernel
theorem dL_law_790 : decode cL_law 790 = .ok (.iaload, 1) := by decide +kernel
theorem dL_law_791 : decode cL_law 791 = .ok (.aload_n 0, 1) := by decide +kernel
theorem dL_law_792 : decode cL_law 792 = .ok (.iload_n 3, 1) := by decide +kernel
theorem dL_law_793 : decode cL_law 793 = .ok (.iconst 3, 1) := by decide +kernel
theorem dL_law_794 : decode cL_law 794 = .ok (.iadd, 1) := by decide +kernel
theorem dL_law_795 : decode cL_law 795 = .ok (.iaload, 1) := by decide +kernel
theorem dL_law_796 : decode cL_law 796 = .ok (.aload_n 0, 1) := by decide +kernel
theorem dL_law_797 : decode cL_law 797 = .ok (.iload_n 3, 1) := by decide +kernel
theorem dL_law_798 : decode cL_law 798 = .ok (.iconst 4, 1) := by decide +kernel
theorem dL_law_799 : decode cL_law 799 = .ok (.iadd, 1) := by decide +kernel
theorem dL_law_800 : decode cL_law 800 = .ok (.iaload, 1) := by decide +kernel
theorem dL_law_801 : decode cL_law 801 = .ok (.aload_n 0, 1) := by decide +kernel
theorem dL_law_802 : decode cL_law 802 = .ok (.iload_n 3, 1) := by decide +kernel
theorem dL_law_803 : decode cL_law 803 = .ok (.iconst 5, 1) := by decide +kernel
theorem dL_law_804 : decode cL_law 804 = .ok (.iadd, 1) := by decide +kernel
theorem dL_law_805 : decode cL_law 805 = .ok (.iaload, 1) := by decide +kernel
theorem dL_law_806 : decode cL_law 806 = .ok (.invokevirtual 94, 3) := by decide +kernel
theorem dL_law_809 : decode cL_law 809 = .ok (.aload_n 2, 1) := by decide +kernel
theorem dL_law_810 : decode cL_law 810 = .ok (.aload_n 0, 1) := by decide +kernel
theorem dL_law_811 : decode cL_law 811 = .ok (.iload_n 3, 1) := by decide +kernel
theorem dL_law_812 : decode cL_law 812 = .ok (.iconst 1, 1) := by decide +kernel
theorem dL_law_813 : decode cL_law 813 = .ok (.iadd, 1) := by decide +kernel
theorem dL_law_814 : decode cL_law 814 = .ok (.iaload, 1) := by decide +kernel
theorem dL_law_815 : decode cL_law 815 = .ok (.aload_n 0, 1) := by decide +kernel
theorem dL_law_816 : decode cL_law 816 = .ok (.iload_n 3, 1) := by decide +kernel
theorem dL_law_817 : decode cL_law 817 = .ok (.iconst 2, 1) := by decide +kernel
theorem dL_law_818 : decode cL_law 818 = .ok (.iadd, 1) := by decide +kernel
theorem dL_law_819 : decode cL_law 819 = .ok (.iaload, 1) := by decide +kernel
theorem dL_law_820 : decode cL_law 820 = .ok (.aload_n 0, 1) := by decide +kernel
theorem dL_law_821 : decode cL_law 821 = .ok (.iload_n 3, 1) := by decide +kernel
theorem dL_law_822 : decode cL_law 822 = .ok (.iconst 3, 1) := by decide +kernel
theorem dL_law_823 : decode cL_law 823 = .ok (.iadd, 1) := by decide +kernel
theorem dL_law_824 : decode cL_law 824 = .ok (.iaload, 1) := by decide +kernel
theorem dL_law_825 : decode cL_law 825 = .ok (.aload_n 0, 1) := by decide +kernel
theorem dL_law_826 : decode cL_law 826 = .ok (.iload_n 3, 1) := by decide +kernel
theorem dL_law_827 : decode cL_law 827 = .ok (.iconst 4, 1) := by decide +kernel
theorem dL_law_828 : decode cL_law 828 = .ok (.iadd, 1) := by decide +kernel
theorem dL_law_829 : decode cL_law 829 = .ok (.iaload, 1) := by decide +kernel
theorem dL_law_830 : decode cL_law 830 = .ok (.aload_n 0, 1) := by decide +kernel
theorem dL_law_831 : decode cL_law 831 = .ok (.iload_n 3, 1) := by decide +kernel
theorem dL_law_832 : decode cL_law 832 = .ok (.iconst 5, 1) := by decide +kernel
theorem dL_law_833 : decode cL_law 833 = .ok (.iadd, 1) := by decide +kernel
theorem dL_law_834 : decode cL_law 834 = .ok (.iaload, 1) := by decide +kernel
theorem dL_law_835 : decode cL_law 835 = .ok (.invokevirtual 98, 3) := by decide +kernel
theorem dL_law_838 : decode cL_law 838 = .ok (.if_icmp .eq 189, 3) := by decide +kernel
theorem dL_law_841 : decode cL_law 841 = .ok (.iconst 0, 1) := by decide +kernel
theorem dL_law_842 : decode cL_law 842 = .ok (.ireturn, 1) := by decide +kernel
theorem dL_law_843 : decode cL_law 843 = .ok (.aload_n 1, 1) := by decide +kernel
theorem dL_law_844 : decode cL_law 844 = .ok (.aload_n 0, 1) := by decide +kernel
theorem dL_law_845 : decode cL_law 845 = .ok (.iload_n 3, 1) := by decide +kernel
theorem dL_law_846 : decode cL_law 846 = .ok (.iconst 1, 1) := by decide +kernel
theorem dL_law_847 : decode cL_law 847 = .ok (.iadd, 1) := by decide +kernel
theorem dL_law_848 : decode cL_law 848 = .ok (.iaload, 1) := by decide +kernel
theorem dL_law_849 : decode cL_law 849 = .ok (.ifCond .eq 7, 3) := by decide +kernel
theorem dL_law_852 : decode cL_law 852 = .ok (.iconst 1, 1) := by decide +kernel
theorem dL_law_853 : decode cL_law 853 = .ok (.goto 4, 3) := by decide +kernel
theorem dL_law_856 : decode cL_law 856 = .ok (.iconst 0, 1) := by decide +kernel
theorem dL_law_857 : decode cL_law 857 = .ok (.invokevirtual 99, 3) := by decide +kernel
theorem dL_law_860 : decode cL_law 860 = .ok (.aload_n 2, 1) := by decide +kernel
theorem dL_law_861 : decode cL_law 861 = .ok (.aload_n 0, 1) := by decide +kernel
theorem dL_law_862 : decode cL_law 862 = .ok (.iload_n 3, 1) := by decide +kernel
theorem dL_law_863 : decode cL_law 863 = .ok (.iconst 1, 1) := by decide +kernel
theorem dL_law_864 : decode cL_law 864 = .ok (.iadd, 1) := by decide +kernel
theorem dL_law_865 : decode cL_law 865 = .ok (.iaload, 1) := by decide +kernel
theorem dL_law_866 : decode cL_law 866 = .ok (.ifCond .eq 7, 3) := by decide +kernel
theorem dL_law_869 : decode cL_law 869 = .ok (.iconst 1, 1) := by decide +kernel
theorem dL_law_870 : decode cL_law 870 = .ok (.goto 4, 3) := by decide +kernel
theorem dL_law_873 : decode cL_law 873 = .ok (.iconst 0, 1) := by decide +kernel
theorem dL_law_874 : decode cL_law 874 = .ok (.invokevirtual 102, 3) := by decide +kernel
theorem dL_law_877 : decode cL_law 877 = .ok (.if_icmp .eq 150, 3) := by decide +kernel
theorem dL_law_880 : decode cL_law 880 = .ok (.iconst 0, 1) := by decide +kernel
theorem dL_law_881 : decode cL_law 881 = .ok (.ireturn, 1) := by decide +kernel
theorem dL_law_882 : decode cL_law 882 = .ok (.aload_n 1, 1) := by decide +kernel
theorem dL_law_883 : decode cL_law 883 = .ok (.aload_n 0, 1) := by decide +kernel
theorem dL_law_884 : decode cL_law 884 = .ok (.iload_n 3, 1) := by decide +kernel
theorem dL_law_885 : decode cL_law 885 = .ok (.iconst 1, 1) := by decide +kernel
theorem dL_law_886 : decode cL_law 886 = .ok (.iadd, 1) := by decide +kernel
theorem dL_law_887 : decode cL_law 887 = .ok (.iaload, 1) := by decide +kernel
theorem dL_law_888 : decode cL_law 888 = .ok (.invokevirtual 103, 3) := by decide +kernel
theorem dL_law_891 : decode cL_law 891 = .ok (.aload_n 2, 1) := by decide +kernel
theorem dL_law_892 : decode cL_law 892 = .ok (.aload_n 0, 1) := by decide +kernel
theorem dL_law_893 : decode cL_law 893 = .ok (.iload_n 3, 1) := by decide +kernel
theorem dL_law_894 : decode cL_law 894 = .ok (.iconst 1, 1) := by decide +kernel
theorem dL_law_895 : decode cL_law 895 = .ok (.iadd, 1) := by decide +kernel
theorem dL_law_896 : decode cL_law 896 = .ok (.iaload, 1) := by decide +kernel
theorem dL_law_897 : decode cL_law 897 = .ok (.invokevirtual 106, 3) := by decide +kernel
theorem dL_law_900 : decode cL_law 900 = .ok (.if_icmp .eq 127, 3) := by decide +kernel
theorem dL_law_903 : decode cL_law 903 = .ok (.iconst 0, 1) := by decide +kernel
theorem dL_law_904 : decode cL_law 904 = .ok (.ireturn, 1) := by decide +kernel
theorem dL_law_905 : decode cL_law 905 = .ok (.aload_n 1, 1) := by decide +kernel
theorem dL_law_906 : decode cL_law 906 = .ok (.invokevirtual 107, 3) := by decide +kernel
theorem dL_law_909 : decode cL_law 909 = .ok (.aload_n 2, 1) := by decide +kernel
theorem dL_law_910 : decode cL_law 910 = .ok (.invokevirtual 110, 3) := by decide +kernel
theorem dL_law_913 : decode cL_law 913 = .ok (.if_icmp .eq 114, 3) := by decide +kernel
theorem dL_law_916 : decode cL_law 916 = .ok (.iconst 0, 1) := by decide +kernel
theorem dL_law_917 : decode cL_law 917 = .ok (.ireturn, 1) := by decide +kernel
theorem dL_law_918 : decode cL_law 918 = .ok (.aload_n 1, 1) := by decide +kernel
theorem dL_law_919 : decode cL_law 919 = .ok (.invokevirtual 111, 3) := by decide +kernel
theorem dL_law_922 : decode cL_law 922 = .ok (.aload_n 2, 1) := by decide +kernel
theorem dL_law_923 : decode cL_law 923 = .ok (.invokevirtual 114, 3) := by decide +kernel
theorem dL_law_926 : decode cL_law 926 = .ok (.if_icmp .eq 101, 3) := by decide +kernel
theorem dL_law_929 : decode cL_law 929 = .ok (.iconst 0, 1) := by decide +kernel
theorem dL_law_930 : decode cL_law 930 = .ok (.ireturn, 1) := by decide +kernel
theorem dL_law_931 : decode cL_law 931 = .ok (.aload_n 1, 1) := by decide +kernel
theorem dL_law_932 : decode cL_law 932 = .ok (.aload_n 0, 1) := by decide +kernel
theorem dL_law_933 : decode cL_law 933 = .ok (.iload_n 3, 1) := by decide +kernel
theorem dL_law_934 : decode cL_law 934 = .ok (.iconst 1, 1) := by decide +kernel
theorem dL_law_935 : decode cL_law 935 = .ok (.iadd, 1) := by decide +kernel
theorem dL_law_936 : decode cL_law 936 = .ok (.iaload, 1) := by decide +kernel
theorem dL_law_937 : decode cL_law 937 = .ok (.invokevirtual 115, 3) := by decide +kernel
theorem dL_law_940 : decode cL_law 940 = .ok (.aload_n 2, 1) := by decide +kernel
theorem dL_law_941 : decode cL_law 941 = .ok (.aload_n 0, 1) := by decide +kernel
theorem dL_law_942 : decode cL_law 942 = .ok (.iload_n 3, 1) := by decide +kernel
theorem dL_law_943 : decode cL_law 943 = .ok (.iconst 1, 1) := by decide +kernel
theorem dL_law_944 : decode cL_law 944 = .ok (.iadd, 1) := by decide +kernel
theorem dL_law_945 : decode cL_law 945 = .ok (.iaload, 1) := by decide +kernel
theorem dL_law_946 : decode cL_law 946 = .ok (.invokevirtual 118, 3) := by decide +kernel
theorem dL_law_949 : decode cL_law 949 = .ok (.if_icmp .eq 78, 3) := by decide +kernel
theorem dL_law_952 : decode cL_law 952 = .ok (.iconst 0, 1) := by decide +kernel
theorem dL_law_953 : decode cL_law 953 = .ok (.ireturn, 1) := by decide +kernel
theorem dL_law_954 : decode cL_law 954 = .ok (.aload_n 1, 1) := by decide +kernel
theorem dL_law_955 : decode cL_law 955 = .ok (.invokevirtual 119, 3) := by decide +kernel
theorem dL_law_958 : decode cL_law 958 = .ok (.aload_n 2, 1) := by decide +kernel
theorem dL_law_959 : decode cL_law 959 = .ok (.invokevirtual 122, 3) := by decide +kernel
theorem dL_law_962 : decode cL_law 962 = .ok (.if_icmp .eq 65, 3) := by decide +kernel
theorem dL_law_965 : decode cL_law 965 = .ok (.iconst 0, 1) := by decide +kernel
theorem dL_law_966 : decode cL_law 966 = .ok (.ireturn, 1) := by decide +kernel
theorem dL_law_967 : decode cL_law 967 = .ok (.aload_n 1, 1) := by decide +kernel
theorem dL_law_968 : decode cL_law 968 = .ok (.invokevirtual 123, 3) := by decide +kernel
theorem dL_law_971 : decode cL_law 971 = .ok (.aload_n 2, 1) := by decide +kernel
theorem dL_law_972 : decode cL_law 972 = .ok (.invokevirtual 127, 3) := by decide +kernel
theorem dL_law_975 : decode cL_law 975 = .ok (.lcmp, 1) := by decide +kernel
theorem dL_law_976 : decode cL_law 976 = .ok (.ifCond .eq 51, 3) := by decide +kernel
theorem dL_law_979 : decode cL_law 979 = .ok (.iconst 0, 1) := by decide +kernel
theorem dL_law_980 : decode cL_law 980 = .ok (.ireturn, 1) := by decide +kernel
theorem dL_law_981 : decode cL_law 981 = .ok (.aload_n 1, 1) := by decide +kernel
theorem dL_law_982 : decode cL_law 982 = .ok (.aload_n 0, 1) := by decide +kernel
theorem dL_law_983 : decode cL_law 983 = .ok (.iload_n 3, 1) := by decide +kernel
theorem dL_law_984 : decode cL_law 984 = .ok (.iconst 1, 1) := by decide +kernel
theorem dL_law_985 : decode cL_law 985 = .ok (.iadd, 1) := by decide +kernel
theorem dL_law_986 : decode cL_law 986 = .ok (.iaload, 1) := by decide +kernel
theorem dL_law_987 : decode cL_law 987 = .ok (.invokevirtual 128, 3) := by decide +kernel
theorem dL_law_990 : decode cL_law 990 = .ok (.aload_n 2, 1) := by decide +kernel
theorem dL_law_991 : decode cL_law 991 = .ok (.aload_n 0, 1) := by decide +kernel
theorem dL_law_992 : decode cL_law 992 = .ok (.iload_n 3, 1) := by decide +kernel
theorem dL_law_993 : decode cL_law 993 = .ok (.iconst 1, 1) := by decide +kernel
theorem dL_law_994 : decode cL_law 994 = .ok (.iadd, 1) := by decide +kernel
theorem dL_law_995 : decode cL_law 995 = .ok (.iaload, 1) := by decide +kernel
theorem dL_law_996 : decode cL_law 996 = .ok (.invokevirtual 131, 3) := by decide +kernel
theorem dL_law_999 : decode cL_law 999 = .ok (.if_icmp .eq 28, 3) := by decide +kernel
theorem dL_law_1002 : decode cL_law 1002 = .ok (.iconst 0, 1) := by decide +kernel
theorem dL_law_1003 : decode cL_law 1003 = .ok (.ireturn, 1) := by decide +kernel
theorem dL_law_1004 : decode cL_law 1004 = .ok (.aload_n 1, 1) := by decide +kernel
theorem dL_law_1005 : decode cL_law 1005 = .ok (.aload_n 0, 1) := by decide +kernel
theorem dL_law_1006 : decode cL_law 1006 = .ok (.iload_n 3, 1) := by decide +kernel
theorem dL_law_1007 : decode cL_law 1007 = .ok (.iconst 1, 1) := by decide +kernel
theorem dL_law_1008 : decode cL_law 1008 = .ok (.iadd, 1) := by decide +kernel
theorem dL_law_1009 : decode cL_law 1009 = .ok (.iaload, 1) := by decide +kernel
theorem dL_law_1010 : decode cL_law 1010 = .ok (.invokevirtual 132, 3) := by decide +kernel
theorem dL_law_1013 : decode cL_law 1013 = .ok (.aload_n 2, 1) := by decide +kernel
theorem dL_law_1014 : decode cL_law 1014 = .ok (.aload_n 0, 1) := by decide +kernel
theorem dL_law_1015 : decode cL_law 1015 = .ok (.iload_n 3, 1) := by decide +kernel
theorem dL_law_1016 : decode cL_law 1016 = .ok (.iconst 1, 1) := by decide +kernel
theorem dL_law_1017 : decode cL_law 1017 = .ok (.iadd, 1) := by decide +kernel
theorem dL_law_1018 : decode cL_law 1018 = .ok (.iaload, 1) := by decide +kernel
theorem dL_law_1019 : decode cL_law 1019 = .ok (.invokevirtual 135, 3) := by decide +kernel
theorem dL_law_1022 : decode cL_law 1022 = .ok (.if_icmp .eq 5, 3) := by decide +kernel
theorem dL_law_1025 : decode cL_law 1025 = .ok (.iconst 0, 1) := by decide +kernel
theorem dL_law_1026 : decode cL_law 1026 = .ok (.ireturn, 1) := by decide +kernel
theorem dL_law_1027 : decode cL_law 1027 = .ok (.iinc 3 6, 3) := by decide +kernel
theorem dL_law_1030 : decode cL_law 1030 = .ok (.goto (-1012), 3) := by decide +kernel
theorem dL_law_1033 : decode cL_law 1033 = .ok (.iconst 1, 1) := by decide +kernel
theorem dL_law_1034 : decode cL_law 1034 = .ok (.ireturn, 1) := by decide +kernel
end
section
section ZX
variable {G : zh_G} {l : Launch} {y : MethodName} {cc : ByteArray} {n : Nat} {r : Option FieldType} {d mc ms0 pc : Nat} {lv : List (Nat × Value)} {st : List Value} {h : zh_H} {Q : Option Value → zh_H → Prop}
theorem zv_l2f {x : Int64} (hd : decode cc pc = .ok (.l2f, 1)) (kk : zv G l y cc n r d mc ms0 (pc + 1) lv (.float (FP.l2f x) :: st) h Q) : zv G l y cc n r d mc ms0 pc lv (.long x :: st) h Q := by
  intro p e R s m args below meth c Qf C H locs cells slots ls hW hL h1 h2 hl
  exact lv_l2f C.1.1 C.1.2.1 hd (kk p e R s m args below meth c Qf C H locs cells slots ls hW hL h1 h2 hl)
theorem zv_f2l {x : UInt32} (hd : decode cc pc = .ok (.f2l, 1)) (kk : zv G l y cc n r d mc ms0 (pc + 1) lv (.long (FP.f2l x) :: st) h Q) : zv G l y cc n r d mc ms0 pc lv (.float x :: st) h Q := by
  intro p e R s m args below meth c Qf C H locs cells slots ls hW hL h1 h2 hl
  exact lv_f2l C.1.1 C.1.2.1 hd (kk p e R s m args below meth c Qf C H locs cells slots ls hW hL h1 h2 hl)
theorem zv_l2d {x : Int64} (hd : decode cc pc = .ok (.l2d, 1)) (kk : zv G l y cc n r d mc ms0 (pc + 1) lv (.double (FP.l2d x) :: st) h Q) : zv G l y cc n r d mc ms0 pc lv (.long x :: st) h Q := by
  intro p e R s m args below meth c Qf C H locs cells slots ls hW hL h1 h2 hl
  exact lv_l2d C.1.1 C.1.2.1 hd (kk p e R s m args below meth c Qf C H locs cells slots ls hW hL h1 h2 hl)
theorem zv_d2l {x : UInt64} (hd : decode cc pc = .ok (.d2l, 1)) (kk : zv G l y cc n r d mc ms0 (pc + 1) lv (.long (FP.d2l x) :: st) h Q) : zv G l y cc n r d mc ms0 pc lv (.double x :: st) h Q := by
  intro p e R s m args below meth c Qf C H locs cells slots ls hW hL h1 h2 hl
  exact lv_d2l C.1.1 C.1.2.1 hd (kk p e R s m args below meth c Qf C H locs cells slots ls hW hL h1 h2 hl)
theorem zv_dup2 {va vb : Value} (hd : decode cc pc = .ok (.dup2, 1)) (ha : va.category = 1) (hb : vb.category = 1) (kk : zv G l y cc n r d mc ms0 (pc + 1) lv (va :: vb :: va :: vb :: st) h Q) : zv G l y cc n r d mc ms0 pc lv (va :: vb :: st) h Q := by
  intro p e R s m args below meth c Qf C H locs cells slots ls hW hL h1 h2 hl
  exact lv_dup2_11 C.1.1 C.1.2.1 hd ha hb (kk p e R s m args below meth c Qf C H locs cells slots ls hW hL h1 h2 hl)
end ZX
/-- the reference's state: its int fields by slot, hasValue, its int arrays by slot, its places -/
abbrev sg : Type := (Nat → Int32) × Int64 × (Nat → Nat → Int32) × (Nat → Int64)
def si (σ : sg) (k : Nat) (x : Int32) : sg := (upd σ.1 k x, σ.2)
def sv (σ : sg) (v : Int64) : sg := (σ.1, v, σ.2.2)
def sa (σ : sg) (k i : Nat) (x : Int32) : sg := (σ.1, σ.2.1, va_up σ.2.2.1 k (upd (σ.2.2.1 k) i x), σ.2.2.2)
def sp (σ : sg) (i : Nat) (v : Int64) : sg := (σ.1, σ.2.1, σ.2.2.1, vp_updL σ.2.2.2 i v)
def mo (B : Nat) (σ : sg) : List Value := [.ref (B + 19), .ref (B + 20), .int (σ.1 2), .int (σ.1 3), .long σ.2.1, .int (σ.1 5), .int (σ.1 6), .ref (B + 21), .int (σ.1 8), .ref (B + 22), .ref (B + 23), .ref (B + 24), .int (σ.1 12), .ref (B + 25), .int (σ.1 14), .ref (B + 26), .int (σ.1 16), .ref (B + 27), .int (σ.1 18), .int (σ.1 19)]
def ms (G : zh_G) (g : Nat → va_E) (σ : sg) : Nat → va_E := fun a =>
  if a = zg_B G + 18 then .inr (6, mo (zg_B G) σ)
  else if a = zg_B G + 19 then .inl (zg_c G 0, 10, .inl (σ.2.2.1 0))
  else if a = zg_B G + 20 then .inl (zg_c G 0, 10, .inl (σ.2.2.1 1))
  else if a = zg_B G + 21 then .inl (zg_c G 2, 41, .inl (σ.2.2.1 7))
  else if a = zg_B G + 22 then .inl (zg_c G 0, 5000, .inl (σ.2.2.1 9))
  else if a = zg_B G + 23 then .inl (zg_c G 0, 5000, .inl (σ.2.2.1 10))
  else if a = zg_B G + 24 then .inl (zg_c G 1, 80000, .inr (.inl σ.2.2.2))
  else if a = zg_B G + 25 then .inl (zg_c G 0, 60, .inl (σ.2.2.1 13))
  else if a = zg_B G + 26 then .inl (zg_c G 0, 12, .inl (σ.2.2.1 15))
  else if a = zg_B G + 27 then .inl (zg_c G 0, 4, .inl (σ.2.2.1 17))
  else g a
section ZM
variable {G : zh_G} {l : Launch} {y : MethodName} {cc : ByteArray} {n : Nat} {r : Option FieldType} {d mc ms0 pc : Nat} {lv : List (Nat × Value)} {st : List Value} {Q : Option Value → zh_H → Prop} {g : Nat → va_E} {σ : sg} {nn : Nat}
theorem ms_o (G : zh_G) (g : Nat → va_E) (σ : sg) : ms G g σ (zg_B G + 18) = .inr (6, mo (zg_B G) σ) := by simp [ms]
theorem ms_a0 (G : zh_G) (g : Nat → va_E) (σ : sg) : ms G g σ (zg_B G + 19) = .inl (zg_c G 0, 10, .inl (σ.2.2.1 0)) := by simp [ms]
theorem ms_a1 (G : zh_G) (g : Nat → va_E) (σ : sg) : ms G g σ (zg_B G + 20) = .inl (zg_c G 0, 10, .inl (σ.2.2.1 1)) := by simp [ms]
theorem ms_a7 (G : zh_G) (g : Nat → va_E) (σ : sg) : ms G g σ (zg_B G + 21) = .inl (zg_c G 2, 41, .inl (σ.2.2.1 7)) := by simp [ms]
theorem ms_a9 (G : zh_G) (g : Nat → va_E) (σ : sg) : ms G g σ (zg_B G + 22) = .inl (zg_c G 0, 5000, .inl (σ.2.2.1 9)) := by simp [ms]
theorem ms_a10 (G : zh_G) (g : Nat → va_E) (σ : sg) : ms G g σ (zg_B G + 23) = .inl (zg_c G 0, 5000, .inl (σ.2.2.1 10)) := by simp [ms]
theorem ms_a11 (G : zh_G) (g : Nat → va_E) (σ : sg) : ms G g σ (zg_B G + 24) = .inl (zg_c G 1, 80000, .inr (.inl σ.2.2.2)) := by simp [ms]
theorem ms_a13 (G : zh_G) (g : Nat → va_E) (σ : sg) : ms G g σ (zg_B G + 25) = .inl (zg_c G 0, 60, .inl (σ.2.2.1 13)) := by simp [ms]
theorem ms_a15 (G : zh_G) (g : Nat → va_E) (σ : sg) : ms G g σ (zg_B G + 26) = .inl (zg_c G 0, 12, .inl (σ.2.2.1 15)) := by simp [ms]
theorem ms_a17 (G : zh_G) (g : Nat → va_E) (σ : sg) : ms G g σ (zg_B G + 27) = .inl (zg_c G 0, 4, .inl (σ.2.2.1 17)) := by simp [ms]
theorem ms_else (G : zh_G) (g : Nat → va_E) (σ : sg) {a : Nat} (h : a < zg_B G + 18 ∨ zg_B G + 28 ≤ a) : ms G g σ a = g a := by
  unfold ms
  rw [if_neg (by omega)]
  rw [if_neg (by omega)]
  rw [if_neg (by omega)]
  rw [if_neg (by omega)]
  rw [if_neg (by omega)]
  rw [if_neg (by omega)]
  rw [if_neg (by omega)]
  rw [if_neg (by omega)]
  rw [if_neg (by omega)]
  rw [if_neg (by omega)]
theorem zM_get (hn : zg_B G + 28 ≤ nn) {idx k : Nat} {v : Value} (hf : zf y.cls idx 6 k) (hv : (mo (zg_B G) σ)[k]? = some v) (hd : decode cc pc = .ok (.getfield idx, 3)) (kk : zv G l y cc n r d mc ms0 (pc + 3) lv (v :: st) (ms G g σ, nn) Q) : zv G l y cc n r d mc ms0 pc lv (.ref (zg_B G + 18) :: st) (ms G g σ, nn) Q := zv_get hf (ms_o G g σ) (by omega) (show zg_B G + 18 < nn by omega) hv hd kk
theorem ms_put2 (G : zh_G) (g : Nat → va_E) (σ : sg) (x : Int32) : va_up (ms G g σ) (zg_B G + 18) (.inr (6, (mo (zg_B G) σ).set 2 (.int x))) = ms G g (si σ 2 x) := by
  funext a
  unfold va_up ms
  by_cases ha : a = zg_B G + 18
  · rw [if_pos ha, if_pos ha]; rfl
  · rw [if_neg ha, if_neg ha, if_neg ha]; rfl
theorem zM_put2 (hn : zg_B G + 28 ≤ nn) {idx : Nat} {x : Int32} (hf : zfw y.cls idx 6 2 .int false) (hd : decode cc pc = .ok (.putfield idx, 3)) (kk : zv G l y cc n r d mc ms0 (pc + 3) lv st (ms G g (si σ 2 x), nn) Q) : zv G l y cc n r d mc ms0 pc lv (.int x :: .ref (zg_B G + 18) :: st) (ms G g σ, nn) Q := by
  refine zv_put hf (ms_o G g σ) (by omega) (show zg_B G + 18 < nn by omega) rfl rfl (by simp [mo]) hd ?_
  show zv G l y cc n r d mc ms0 (pc + 3) lv st (va_up (ms G g σ) (zg_B G + 18) (.inr (6, (mo (zg_B G) σ).set 2 (.int x))), nn) Q
  rw [ms_put2]; exact kk
theorem ms_put3 (G : zh_G) (g : Nat → va_E) (σ : sg) (x : Int32) : va_up (ms G g σ) (zg_B G + 18) (.inr (6, (mo (zg_B G) σ).set 3 (.int x))) = ms G g (si σ 3 x) := by
  funext a
  unfold va_up ms
  by_cases ha : a = zg_B G + 18
  · rw [if_pos ha, if_pos ha]; rfl
  · rw [if_neg ha, if_neg ha, if_neg ha]; rfl
theorem zM_put3 (hn : zg_B G + 28 ≤ nn) {idx : Nat} {x : Int32} (hf : zfw y.cls idx 6 3 .int false) (hd : decode cc pc = .ok (.putfield idx, 3)) (kk : zv G l y cc n r d mc ms0 (pc + 3) lv st (ms G g (si σ 3 x), nn) Q) : zv G l y cc n r d mc ms0 pc lv (.int x :: .ref (zg_B G + 18) :: st) (ms G g σ, nn) Q := by
  refine zv_put hf (ms_o G g σ) (by omega) (show zg_B G + 18 < nn by omega) rfl rfl (by simp [mo]) hd ?_
  show zv G l y cc n r d mc ms0 (pc + 3) lv st (va_up (ms G g σ) (zg_B G + 18) (.inr (6, (mo (zg_B G) σ).set 3 (.int x))), nn) Q
  rw [ms_put3]; exact kk
theorem ms_put5 (G : zh_G) (g : Nat → va_E) (σ : sg) (x : Int32) : va_up (ms G g σ) (zg_B G + 18) (.inr (6, (mo (zg_B G) σ).set 5 (.int x))) = ms G g (si σ 5 x) := by
  funext a
  unfold va_up ms
  by_cases ha : a = zg_B G + 18
  · rw [if_pos ha, if_pos ha]; rfl
  · rw [if_neg ha, if_neg ha, if_neg ha]; rfl
theorem zM_put5 (hn : zg_B G + 28 ≤ nn) {idx : Nat} {x : Int32} (hf : zfw y.cls idx 6 5 .int false) (hd : decode cc pc = .ok (.putfield idx, 3)) (kk : zv G l y cc n r d mc ms0 (pc + 3) lv st (ms G g (si σ 5 x), nn) Q) : zv G l y cc n r d mc ms0 pc lv (.int x :: .ref (zg_B G + 18) :: st) (ms G g σ, nn) Q := by
  refine zv_put hf (ms_o G g σ) (by omega) (show zg_B G + 18 < nn by omega) rfl rfl (by simp [mo]) hd ?_
  show zv G l y cc n r d mc ms0 (pc + 3) lv st (va_up (ms G g σ) (zg_B G + 18) (.inr (6, (mo (zg_B G) σ).set 5 (.int x))), nn) Q
  rw [ms_put5]; exact kk
theorem ms_put6 (G : zh_G) (g : Nat → va_E) (σ : sg) (x : Int32) : va_up (ms G g σ) (zg_B G + 18) (.inr (6, (mo (zg_B G) σ).set 6 (.int x))) = ms G g (si σ 6 x) := by
  funext a
  unfold va_up ms
  by_cases ha : a = zg_B G + 18
  · rw [if_pos ha, if_pos ha]; rfl
  · rw [if_neg ha, if_neg ha, if_neg ha]; rfl
theorem zM_put6 (hn : zg_B G + 28 ≤ nn) {idx : Nat} {x : Int32} (hf : zfw y.cls idx 6 6 .int false) (hd : decode cc pc = .ok (.putfield idx, 3)) (kk : zv G l y cc n r d mc ms0 (pc + 3) lv st (ms G g (si σ 6 x), nn) Q) : zv G l y cc n r d mc ms0 pc lv (.int x :: .ref (zg_B G + 18) :: st) (ms G g σ, nn) Q := by
  refine zv_put hf (ms_o G g σ) (by omega) (show zg_B G + 18 < nn by omega) rfl rfl (by simp [mo]) hd ?_
  show zv G l y cc n r d mc ms0 (pc + 3) lv st (va_up (ms G g σ) (zg_B G + 18) (.inr (6, (mo (zg_B G) σ).set 6 (.int x))), nn) Q
  rw [ms_put6]; exact kk
theorem ms_put8 (G : zh_G) (g : Nat → va_E) (σ : sg) (x : Int32) : va_up (ms G g σ) (zg_B G + 18) (.inr (6, (mo (zg_B G) σ).set 8 (.int x))) = ms G g (si σ 8 x) := by
  funext a
  unfold va_up ms
  by_cases ha : a = zg_B G + 18
  · rw [if_pos ha, if_pos ha]; rfl
  · rw [if_neg ha, if_neg ha, if_neg ha]; rfl
theorem zM_put8 (hn : zg_B G + 28 ≤ nn) {idx : Nat} {x : Int32} (hf : zfw y.cls idx 6 8 .int false) (hd : decode cc pc = .ok (.putfield idx, 3)) (kk : zv G l y cc n r d mc ms0 (pc + 3) lv st (ms G g (si σ 8 x), nn) Q) : zv G l y cc n r d mc ms0 pc lv (.int x :: .ref (zg_B G + 18) :: st) (ms G g σ, nn) Q := by
  refine zv_put hf (ms_o G g σ) (by omega) (show zg_B G + 18 < nn by omega) rfl rfl (by simp [mo]) hd ?_
  show zv G l y cc n r d mc ms0 (pc + 3) lv st (va_up (ms G g σ) (zg_B G + 18) (.inr (6, (mo (zg_B G) σ).set 8 (.int x))), nn) Q
  rw [ms_put8]; exact kk
theorem ms_put12 (G : zh_G) (g : Nat → va_E) (σ : sg) (x : Int32) : va_up (ms G g σ) (zg_B G + 18) (.inr (6, (mo (zg_B G) σ).set 12 (.int x))) = ms G g (si σ 12 x) := by
  funext a
  unfold va_up ms
  by_cases ha : a = zg_B G + 18
  · rw [if_pos ha, if_pos ha]; rfl
  · rw [if_neg ha, if_neg ha, if_neg ha]; rfl
theorem zM_put12 (hn : zg_B G + 28 ≤ nn) {idx : Nat} {x : Int32} (hf : zfw y.cls idx 6 12 .int false) (hd : decode cc pc = .ok (.putfield idx, 3)) (kk : zv G l y cc n r d mc ms0 (pc + 3) lv st (ms G g (si σ 12 x), nn) Q) : zv G l y cc n r d mc ms0 pc lv (.int x :: .ref (zg_B G + 18) :: st) (ms G g σ, nn) Q := by
  refine zv_put hf (ms_o G g σ) (by omega) (show zg_B G + 18 < nn by omega) rfl rfl (by simp [mo]) hd ?_
  show zv G l y cc n r d mc ms0 (pc + 3) lv st (va_up (ms G g σ) (zg_B G + 18) (.inr (6, (mo (zg_B G) σ).set 12 (.int x))), nn) Q
  rw [ms_put12]; exact kk
theorem ms_put14 (G : zh_G) (g : Nat → va_E) (σ : sg) (x : Int32) : va_up (ms G g σ) (zg_B G + 18) (.inr (6, (mo (zg_B G) σ).set 14 (.int x))) = ms G g (si σ 14 x) := by
  funext a
  unfold va_up ms
  by_cases ha : a = zg_B G + 18
  · rw [if_pos ha, if_pos ha]; rfl
  · rw [if_neg ha, if_neg ha, if_neg ha]; rfl
theorem zM_put14 (hn : zg_B G + 28 ≤ nn) {idx : Nat} {x : Int32} (hf : zfw y.cls idx 6 14 .int false) (hd : decode cc pc = .ok (.putfield idx, 3)) (kk : zv G l y cc n r d mc ms0 (pc + 3) lv st (ms G g (si σ 14 x), nn) Q) : zv G l y cc n r d mc ms0 pc lv (.int x :: .ref (zg_B G + 18) :: st) (ms G g σ, nn) Q := by
  refine zv_put hf (ms_o G g σ) (by omega) (show zg_B G + 18 < nn by omega) rfl rfl (by simp [mo]) hd ?_
  show zv G l y cc n r d mc ms0 (pc + 3) lv st (va_up (ms G g σ) (zg_B G + 18) (.inr (6, (mo (zg_B G) σ).set 14 (.int x))), nn) Q
  rw [ms_put14]; exact kk
theorem ms_put16 (G : zh_G) (g : Nat → va_E) (σ : sg) (x : Int32) : va_up (ms G g σ) (zg_B G + 18) (.inr (6, (mo (zg_B G) σ).set 16 (.int x))) = ms G g (si σ 16 x) := by
  funext a
  unfold va_up ms
  by_cases ha : a = zg_B G + 18
  · rw [if_pos ha, if_pos ha]; rfl
  · rw [if_neg ha, if_neg ha, if_neg ha]; rfl
theorem zM_put16 (hn : zg_B G + 28 ≤ nn) {idx : Nat} {x : Int32} (hf : zfw y.cls idx 6 16 .int false) (hd : decode cc pc = .ok (.putfield idx, 3)) (kk : zv G l y cc n r d mc ms0 (pc + 3) lv st (ms G g (si σ 16 x), nn) Q) : zv G l y cc n r d mc ms0 pc lv (.int x :: .ref (zg_B G + 18) :: st) (ms G g σ, nn) Q := by
  refine zv_put hf (ms_o G g σ) (by omega) (show zg_B G + 18 < nn by omega) rfl rfl (by simp [mo]) hd ?_
  show zv G l y cc n r d mc ms0 (pc + 3) lv st (va_up (ms G g σ) (zg_B G + 18) (.inr (6, (mo (zg_B G) σ).set 16 (.int x))), nn) Q
  rw [ms_put16]; exact kk
theorem ms_put18 (G : zh_G) (g : Nat → va_E) (σ : sg) (x : Int32) : va_up (ms G g σ) (zg_B G + 18) (.inr (6, (mo (zg_B G) σ).set 18 (.int x))) = ms G g (si σ 18 x) := by
  funext a
  unfold va_up ms
  by_cases ha : a = zg_B G + 18
  · rw [if_pos ha, if_pos ha]; rfl
  · rw [if_neg ha, if_neg ha, if_neg ha]; rfl
theorem zM_put18 (hn : zg_B G + 28 ≤ nn) {idx : Nat} {x : Int32} (hf : zfw y.cls idx 6 18 .int false) (hd : decode cc pc = .ok (.putfield idx, 3)) (kk : zv G l y cc n r d mc ms0 (pc + 3) lv st (ms G g (si σ 18 x), nn) Q) : zv G l y cc n r d mc ms0 pc lv (.int x :: .ref (zg_B G + 18) :: st) (ms G g σ, nn) Q := by
  refine zv_put hf (ms_o G g σ) (by omega) (show zg_B G + 18 < nn by omega) rfl rfl (by simp [mo]) hd ?_
  show zv G l y cc n r d mc ms0 (pc + 3) lv st (va_up (ms G g σ) (zg_B G + 18) (.inr (6, (mo (zg_B G) σ).set 18 (.int x))), nn) Q
  rw [ms_put18]; exact kk
theorem ms_put19 (G : zh_G) (g : Nat → va_E) (σ : sg) (x : Int32) : va_up (ms G g σ) (zg_B G + 18) (.inr (6, (mo (zg_B G) σ).set 19 (.int x))) = ms G g (si σ 19 x) := by
  funext a
  unfold va_up ms
  by_cases ha : a = zg_B G + 18
  · rw [if_pos ha, if_pos ha]; rfl
  · rw [if_neg ha, if_neg ha, if_neg ha]; rfl
theorem zM_put19 (hn : zg_B G + 28 ≤ nn) {idx : Nat} {x : Int32} (hf : zfw y.cls idx 6 19 .int false) (hd : decode cc pc = .ok (.putfield idx, 3)) (kk : zv G l y cc n r d mc ms0 (pc + 3) lv st (ms G g (si σ 19 x), nn) Q) : zv G l y cc n r d mc ms0 pc lv (.int x :: .ref (zg_B G + 18) :: st) (ms G g σ, nn) Q := by
  refine zv_put hf (ms_o G g σ) (by omega) (show zg_B G + 18 < nn by omega) rfl rfl (by simp [mo]) hd ?_
  show zv G l y cc n r d mc ms0 (pc + 3) lv st (va_up (ms G g σ) (zg_B G + 18) (.inr (6, (mo (zg_B G) σ).set 19 (.int x))), nn) Q
  rw [ms_put19]; exact kk
theorem ms_put4 (G : zh_G) (g : Nat → va_E) (σ : sg) (x : Int64) : va_up (ms G g σ) (zg_B G + 18) (.inr (6, (mo (zg_B G) σ).set 4 (.long x))) = ms G g (sv σ x) := by
  funext a
  unfold va_up ms
  by_cases ha : a = zg_B G + 18
  · rw [if_pos ha, if_pos ha]; rfl
  · rw [if_neg ha, if_neg ha, if_neg ha]; rfl
theorem zM_put4 (hn : zg_B G + 28 ≤ nn) {idx : Nat} {x : Int64} (hf : zfw y.cls idx 6 4 .long false) (hd : decode cc pc = .ok (.putfield idx, 3)) (kk : zv G l y cc n r d mc ms0 (pc + 3) lv st (ms G g (sv σ x), nn) Q) : zv G l y cc n r d mc ms0 pc lv (.long x :: .ref (zg_B G + 18) :: st) (ms G g σ, nn) Q := by
  refine zv_put hf (ms_o G g σ) (by omega) (show zg_B G + 18 < nn by omega) rfl rfl (by simp [mo]) hd ?_
  show zv G l y cc n r d mc ms0 (pc + 3) lv st (va_up (ms G g σ) (zg_B G + 18) (.inr (6, (mo (zg_B G) σ).set 4 (.long x))), nn) Q
  rw [ms_put4]; exact kk
theorem zM_ald0 (hn : zg_B G + 28 ≤ nn) {i : Int32} (hin : vp_in i 10) (hd : decode cc pc = .ok (.iaload, 1)) (kk : zv G l y cc n r d mc ms0 (pc + 1) lv (.int (σ.2.2.1 0 i.toNatClampNeg) :: st) (ms G g σ, nn) Q) : zv G l y cc n r d mc ms0 pc lv (.int i :: .ref (zg_B G + 19) :: st) (ms G g σ, nn) Q := zv_iald (ms_a0 G g σ) (by omega) (show zg_B G + 19 < nn by omega) hin hd kk
theorem ms_st0 (G : zh_G) (g : Nat → va_E) (σ : sg) (j : Nat) (x : Int32) : va_up (ms G g σ) (zg_B G + 19) (.inl (zg_c G 0, 10, .inl (upd (σ.2.2.1 0) j x))) = ms G g (sa σ 0 j x) := by
  funext a
  unfold va_up ms
  by_cases ha : a = zg_B G + 19
  · subst ha; simp [sa, sp, va_up]
  · rw [if_neg ha]; simp only [sa, sp, va_up, mo]; simp [ha]
theorem zM_ast0 (hn : zg_B G + 28 ≤ nn) {i : Int32} {x : Int32} (hin : vp_in i 10) (hd : decode cc pc = .ok (.iastore, 1)) (kk : zv G l y cc n r d mc ms0 (pc + 1) lv st (ms G g (sa σ 0 i.toNatClampNeg x), nn) Q) : zv G l y cc n r d mc ms0 pc lv (.int x :: .int i :: .ref (zg_B G + 19) :: st) (ms G g σ, nn) Q := by
  refine zv_iast (ms_a0 G g σ) (by omega) (show zg_B G + 19 < nn by omega) hin hd ?_
  show zv G l y cc n r d mc ms0 (pc + 1) lv st (va_up (ms G g σ) (zg_B G + 19) (.inl (zg_c G 0, 10, .inl (upd (σ.2.2.1 0) i.toNatClampNeg x))), nn) Q
  rw [ms_st0]; exact kk
theorem zM_ald1 (hn : zg_B G + 28 ≤ nn) {i : Int32} (hin : vp_in i 10) (hd : decode cc pc = .ok (.iaload, 1)) (kk : zv G l y cc n r d mc ms0 (pc + 1) lv (.int (σ.2.2.1 1 i.toNatClampNeg) :: st) (ms G g σ, nn) Q) : zv G l y cc n r d mc ms0 pc lv (.int i :: .ref (zg_B G + 20) :: st) (ms G g σ, nn) Q := zv_iald (ms_a1 G g σ) (by omega) (show zg_B G + 20 < nn by omega) hin hd kk
theorem ms_st1 (G : zh_G) (g : Nat → va_E) (σ : sg) (j : Nat) (x : Int32) : va_up (ms G g σ) (zg_B G + 20) (.inl (zg_c G 0, 10, .inl (upd (σ.2.2.1 1) j x))) = ms G g (sa σ 1 j x) := by
  funext a
  unfold va_up ms
  by_cases ha : a = zg_B G + 20
  · subst ha; simp [sa, sp, va_up]
  · rw [if_neg ha]; simp only [sa, sp, va_up, mo]; simp [ha]
theorem zM_ast1 (hn : zg_B G + 28 ≤ nn) {i : Int32} {x : Int32} (hin : vp_in i 10) (hd : decode cc pc = .ok (.iastore, 1)) (kk : zv G l y cc n r d mc ms0 (pc + 1) lv st (ms G g (sa σ 1 i.toNatClampNeg x), nn) Q) : zv G l y cc n r d mc ms0 pc lv (.int x :: .int i :: .ref (zg_B G + 20) :: st) (ms G g σ, nn) Q := by
  refine zv_iast (ms_a1 G g σ) (by omega) (show zg_B G + 20 < nn by omega) hin hd ?_
  show zv G l y cc n r d mc ms0 (pc + 1) lv st (va_up (ms G g σ) (zg_B G + 20) (.inl (zg_c G 0, 10, .inl (upd (σ.2.2.1 1) i.toNatClampNeg x))), nn) Q
  rw [ms_st1]; exact kk
theorem zM_ald7 (hn : zg_B G + 28 ≤ nn) {i : Int32} (hin : vp_in i 41) (hd : decode cc pc = .ok (.baload, 1)) (kk : zv G l y cc n r d mc ms0 (pc + 1) lv (.int (σ.2.2.1 7 i.toNatClampNeg) :: st) (ms G g σ, nn) Q) : zv G l y cc n r d mc ms0 pc lv (.int i :: .ref (zg_B G + 21) :: st) (ms G g σ, nn) Q := zv_zald (ms_a7 G g σ) (by omega) (show zg_B G + 21 < nn by omega) hin hd kk
theorem ms_st7 (G : zh_G) (g : Nat → va_E) (σ : sg) (j : Nat) (x : Int32) : va_up (ms G g σ) (zg_B G + 21) (.inl (zg_c G 2, 41, .inl (upd (σ.2.2.1 7) j x))) = ms G g (sa σ 7 j x) := by
  funext a
  unfold va_up ms
  by_cases ha : a = zg_B G + 21
  · subst ha; simp [sa, sp, va_up]
  · rw [if_neg ha]; simp only [sa, sp, va_up, mo]; simp [ha]
theorem zM_ast7 (hn : zg_B G + 28 ≤ nn) {i : Int32} {x : Int32} (hin : vp_in i 41) (hnar : narrow .boolean (.int x) = .int x) (hd : decode cc pc = .ok (.bastore, 1)) (kk : zv G l y cc n r d mc ms0 (pc + 1) lv st (ms G g (sa σ 7 i.toNatClampNeg x), nn) Q) : zv G l y cc n r d mc ms0 pc lv (.int x :: .int i :: .ref (zg_B G + 21) :: st) (ms G g σ, nn) Q := by
  refine zv_zast (ms_a7 G g σ) (by omega) (show zg_B G + 21 < nn by omega) hin hnar hd ?_
  show zv G l y cc n r d mc ms0 (pc + 1) lv st (va_up (ms G g σ) (zg_B G + 21) (.inl (zg_c G 2, 41, .inl (upd (σ.2.2.1 7) i.toNatClampNeg x))), nn) Q
  rw [ms_st7]; exact kk
theorem zM_ald9 (hn : zg_B G + 28 ≤ nn) {i : Int32} (hin : vp_in i 5000) (hd : decode cc pc = .ok (.iaload, 1)) (kk : zv G l y cc n r d mc ms0 (pc + 1) lv (.int (σ.2.2.1 9 i.toNatClampNeg) :: st) (ms G g σ, nn) Q) : zv G l y cc n r d mc ms0 pc lv (.int i :: .ref (zg_B G + 22) :: st) (ms G g σ, nn) Q := zv_iald (ms_a9 G g σ) (by omega) (show zg_B G + 22 < nn by omega) hin hd kk
theorem ms_st9 (G : zh_G) (g : Nat → va_E) (σ : sg) (j : Nat) (x : Int32) : va_up (ms G g σ) (zg_B G + 22) (.inl (zg_c G 0, 5000, .inl (upd (σ.2.2.1 9) j x))) = ms G g (sa σ 9 j x) := by
  funext a
  unfold va_up ms
  by_cases ha : a = zg_B G + 22
  · subst ha; simp [sa, sp, va_up]
  · rw [if_neg ha]; simp only [sa, sp, va_up, mo]; simp [ha]
theorem zM_ast9 (hn : zg_B G + 28 ≤ nn) {i : Int32} {x : Int32} (hin : vp_in i 5000) (hd : decode cc pc = .ok (.iastore, 1)) (kk : zv G l y cc n r d mc ms0 (pc + 1) lv st (ms G g (sa σ 9 i.toNatClampNeg x), nn) Q) : zv G l y cc n r d mc ms0 pc lv (.int x :: .int i :: .ref (zg_B G + 22) :: st) (ms G g σ, nn) Q := by
  refine zv_iast (ms_a9 G g σ) (by omega) (show zg_B G + 22 < nn by omega) hin hd ?_
  show zv G l y cc n r d mc ms0 (pc + 1) lv st (va_up (ms G g σ) (zg_B G + 22) (.inl (zg_c G 0, 5000, .inl (upd (σ.2.2.1 9) i.toNatClampNeg x))), nn) Q
  rw [ms_st9]; exact kk
theorem zM_ald10 (hn : zg_B G + 28 ≤ nn) {i : Int32} (hin : vp_in i 5000) (hd : decode cc pc = .ok (.iaload, 1)) (kk : zv G l y cc n r d mc ms0 (pc + 1) lv (.int (σ.2.2.1 10 i.toNatClampNeg) :: st) (ms G g σ, nn) Q) : zv G l y cc n r d mc ms0 pc lv (.int i :: .ref (zg_B G + 23) :: st) (ms G g σ, nn) Q := zv_iald (ms_a10 G g σ) (by omega) (show zg_B G + 23 < nn by omega) hin hd kk
theorem ms_st10 (G : zh_G) (g : Nat → va_E) (σ : sg) (j : Nat) (x : Int32) : va_up (ms G g σ) (zg_B G + 23) (.inl (zg_c G 0, 5000, .inl (upd (σ.2.2.1 10) j x))) = ms G g (sa σ 10 j x) := by
  funext a
  unfold va_up ms
  by_cases ha : a = zg_B G + 23
  · subst ha; simp [sa, sp, va_up]
  · rw [if_neg ha]; simp only [sa, sp, va_up, mo]; simp [ha]
theorem zM_ast10 (hn : zg_B G + 28 ≤ nn) {i : Int32} {x : Int32} (hin : vp_in i 5000) (hd : decode cc pc = .ok (.iastore, 1)) (kk : zv G l y cc n r d mc ms0 (pc + 1) lv st (ms G g (sa σ 10 i.toNatClampNeg x), nn) Q) : zv G l y cc n r d mc ms0 pc lv (.int x :: .int i :: .ref (zg_B G + 23) :: st) (ms G g σ, nn) Q := by
  refine zv_iast (ms_a10 G g σ) (by omega) (show zg_B G + 23 < nn by omega) hin hd ?_
  show zv G l y cc n r d mc ms0 (pc + 1) lv st (va_up (ms G g σ) (zg_B G + 23) (.inl (zg_c G 0, 5000, .inl (upd (σ.2.2.1 10) i.toNatClampNeg x))), nn) Q
  rw [ms_st10]; exact kk
theorem zM_ald11 (hn : zg_B G + 28 ≤ nn) {i : Int32} (hin : vp_in i 80000) (hd : decode cc pc = .ok (.laload, 1)) (kk : zv G l y cc n r d mc ms0 (pc + 1) lv (.long (σ.2.2.2 i.toNatClampNeg) :: st) (ms G g σ, nn) Q) : zv G l y cc n r d mc ms0 pc lv (.int i :: .ref (zg_B G + 24) :: st) (ms G g σ, nn) Q := zv_lald (ms_a11 G g σ) (by omega) (show zg_B G + 24 < nn by omega) hin hd kk
theorem ms_st11 (G : zh_G) (g : Nat → va_E) (σ : sg) (j : Nat) (x : Int64) : va_up (ms G g σ) (zg_B G + 24) (.inl (zg_c G 1, 80000, .inr (.inl (vp_updL σ.2.2.2 j x)))) = ms G g (sp σ j x) := by
  funext a
  unfold va_up ms
  by_cases ha : a = zg_B G + 24
  · subst ha; simp [sa, sp, va_up]
  · rw [if_neg ha]; simp only [sa, sp, va_up, mo]; simp [ha]
theorem zM_ast11 (hn : zg_B G + 28 ≤ nn) {i : Int32} {x : Int64} (hin : vp_in i 80000) (hd : decode cc pc = .ok (.lastore, 1)) (kk : zv G l y cc n r d mc ms0 (pc + 1) lv st (ms G g (sp σ i.toNatClampNeg x), nn) Q) : zv G l y cc n r d mc ms0 pc lv (.long x :: .int i :: .ref (zg_B G + 24) :: st) (ms G g σ, nn) Q := by
  refine zv_last (ms_a11 G g σ) (by omega) (show zg_B G + 24 < nn by omega) hin hd ?_
  show zv G l y cc n r d mc ms0 (pc + 1) lv st (va_up (ms G g σ) (zg_B G + 24) (.inl (zg_c G 1, 80000, .inr (.inl (vp_updL σ.2.2.2 i.toNatClampNeg x)))), nn) Q
  rw [ms_st11]; exact kk
theorem zM_ald13 (hn : zg_B G + 28 ≤ nn) {i : Int32} (hin : vp_in i 60) (hd : decode cc pc = .ok (.iaload, 1)) (kk : zv G l y cc n r d mc ms0 (pc + 1) lv (.int (σ.2.2.1 13 i.toNatClampNeg) :: st) (ms G g σ, nn) Q) : zv G l y cc n r d mc ms0 pc lv (.int i :: .ref (zg_B G + 25) :: st) (ms G g σ, nn) Q := zv_iald (ms_a13 G g σ) (by omega) (show zg_B G + 25 < nn by omega) hin hd kk
theorem ms_st13 (G : zh_G) (g : Nat → va_E) (σ : sg) (j : Nat) (x : Int32) : va_up (ms G g σ) (zg_B G + 25) (.inl (zg_c G 0, 60, .inl (upd (σ.2.2.1 13) j x))) = ms G g (sa σ 13 j x) := by
  funext a
  unfold va_up ms
  by_cases ha : a = zg_B G + 25
  · subst ha; simp [sa, sp, va_up]
  · rw [if_neg ha]; simp only [sa, sp, va_up, mo]; simp [ha]
theorem zM_ast13 (hn : zg_B G + 28 ≤ nn) {i : Int32} {x : Int32} (hin : vp_in i 60) (hd : decode cc pc = .ok (.iastore, 1)) (kk : zv G l y cc n r d mc ms0 (pc + 1) lv st (ms G g (sa σ 13 i.toNatClampNeg x), nn) Q) : zv G l y cc n r d mc ms0 pc lv (.int x :: .int i :: .ref (zg_B G + 25) :: st) (ms G g σ, nn) Q := by
  refine zv_iast (ms_a13 G g σ) (by omega) (show zg_B G + 25 < nn by omega) hin hd ?_
  show zv G l y cc n r d mc ms0 (pc + 1) lv st (va_up (ms G g σ) (zg_B G + 25) (.inl (zg_c G 0, 60, .inl (upd (σ.2.2.1 13) i.toNatClampNeg x))), nn) Q
  rw [ms_st13]; exact kk
theorem zM_ald15 (hn : zg_B G + 28 ≤ nn) {i : Int32} (hin : vp_in i 12) (hd : decode cc pc = .ok (.iaload, 1)) (kk : zv G l y cc n r d mc ms0 (pc + 1) lv (.int (σ.2.2.1 15 i.toNatClampNeg) :: st) (ms G g σ, nn) Q) : zv G l y cc n r d mc ms0 pc lv (.int i :: .ref (zg_B G + 26) :: st) (ms G g σ, nn) Q := zv_iald (ms_a15 G g σ) (by omega) (show zg_B G + 26 < nn by omega) hin hd kk
theorem ms_st15 (G : zh_G) (g : Nat → va_E) (σ : sg) (j : Nat) (x : Int32) : va_up (ms G g σ) (zg_B G + 26) (.inl (zg_c G 0, 12, .inl (upd (σ.2.2.1 15) j x))) = ms G g (sa σ 15 j x) := by
  funext a
  unfold va_up ms
  by_cases ha : a = zg_B G + 26
  · subst ha; simp [sa, sp, va_up]
  · rw [if_neg ha]; simp only [sa, sp, va_up, mo]; simp [ha]
theorem zM_ast15 (hn : zg_B G + 28 ≤ nn) {i : Int32} {x : Int32} (hin : vp_in i 12) (hd : decode cc pc = .ok (.iastore, 1)) (kk : zv G l y cc n r d mc ms0 (pc + 1) lv st (ms G g (sa σ 15 i.toNatClampNeg x), nn) Q) : zv G l y cc n r d mc ms0 pc lv (.int x :: .int i :: .ref (zg_B G + 26) :: st) (ms G g σ, nn) Q := by
  refine zv_iast (ms_a15 G g σ) (by omega) (show zg_B G + 26 < nn by omega) hin hd ?_
  show zv G l y cc n r d mc ms0 (pc + 1) lv st (va_up (ms G g σ) (zg_B G + 26) (.inl (zg_c G 0, 12, .inl (upd (σ.2.2.1 15) i.toNatClampNeg x))), nn) Q
  rw [ms_st15]; exact kk
theorem zM_ald17 (hn : zg_B G + 28 ≤ nn) {i : Int32} (hin : vp_in i 4) (hd : decode cc pc = .ok (.iaload, 1)) (kk : zv G l y cc n r d mc ms0 (pc + 1) lv (.int (σ.2.2.1 17 i.toNatClampNeg) :: st) (ms G g σ, nn) Q) : zv G l y cc n r d mc ms0 pc lv (.int i :: .ref (zg_B G + 27) :: st) (ms G g σ, nn) Q := zv_iald (ms_a17 G g σ) (by omega) (show zg_B G + 27 < nn by omega) hin hd kk
theorem ms_st17 (G : zh_G) (g : Nat → va_E) (σ : sg) (j : Nat) (x : Int32) : va_up (ms G g σ) (zg_B G + 27) (.inl (zg_c G 0, 4, .inl (upd (σ.2.2.1 17) j x))) = ms G g (sa σ 17 j x) := by
  funext a
  unfold va_up ms
  by_cases ha : a = zg_B G + 27
  · subst ha; simp [sa, sp, va_up]
  · rw [if_neg ha]; simp only [sa, sp, va_up, mo]; simp [ha]
theorem zM_ast17 (hn : zg_B G + 28 ≤ nn) {i : Int32} {x : Int32} (hin : vp_in i 4) (hd : decode cc pc = .ok (.iastore, 1)) (kk : zv G l y cc n r d mc ms0 (pc + 1) lv st (ms G g (sa σ 17 i.toNatClampNeg x), nn) Q) : zv G l y cc n r d mc ms0 pc lv (.int x :: .int i :: .ref (zg_B G + 27) :: st) (ms G g σ, nn) Q := by
  refine zv_iast (ms_a17 G g σ) (by omega) (show zg_B G + 27 < nn by omega) hin hd ?_
  show zv G l y cc n r d mc ms0 (pc + 1) lv st (va_up (ms G g σ) (zg_B G + 27) (.inl (zg_c G 0, 4, .inl (upd (σ.2.2.1 17) i.toNatClampNeg x))), nn) Q
  rw [ms_st17]; exact kk
end ZM
end
section
/-! what the reference does, as functions of its state -/
def zb (b : Bool) : Int32 := if b = true then 1 else 0
theorem zb_0 {b : Bool} : zb b = 0 ↔ b = false := by cases b <;> simp [zb]
theorem zb_n {b : Bool} : ¬ zb b = 0 ↔ b = true := by cases b <;> simp [zb]
theorem zb_nar (b : Bool) : narrow .boolean (.int (zb b)) = .int (zb b) := by cases b <;> rfl
theorem cmp_lt {x y : Int64} : lg_cmp x y < 0 ↔ x < y := by
  unfold lg_cmp
  by_cases h : x > y
  · rw [if_pos h]
    constructor
    · intro q; exact absurd q (by decide)
    · intro q; exact (Int64.lt_irrefl (Int64.lt_trans q h)).elim
  · rw [if_neg h]
    by_cases h2 : x = y
    · rw [if_pos h2]; subst h2
      constructor
      · intro q; exact absurd q (by decide)
      · intro q; exact (Int64.lt_irrefl q).elim
    · rw [if_neg h2]
      constructor
      · intro _; exact Int64.lt_of_le_of_ne (Int64.not_lt.mp h) h2
      · intro _; decide
theorem cmp_le {x y : Int64} : lg_cmp x y ≤ 0 ↔ x ≤ y := by
  unfold lg_cmp
  by_cases h : x > y
  · rw [if_pos h]
    constructor
    · intro q; exact absurd q (by decide)
    · intro q; exact absurd h (Int64.not_lt.mpr q)
  · rw [if_neg h]
    constructor
    · intro _; exact Int64.not_lt.mp h
    · intro _; split <;> decide
theorem cmp_eq {x y : Int64} : lg_cmp x y = 0 ↔ x = y := by
  unfold lg_cmp
  by_cases h : x > y
  · rw [if_pos h]
    constructor
    · intro q; exact absurd q (by decide)
    · intro q; subst q; exact (Int64.lt_irrefl h).elim
  · rw [if_neg h]
    by_cases h2 : x = y
    · rw [if_pos h2]; exact ⟨fun _ => h2, fun _ => rfl⟩
    · rw [if_neg h2]
      exact ⟨fun q => absurd q (by decide), fun q => absurd q h2⟩
abbrev xT (σ : sg) (r : Int32) : Int32 := σ.2.2.1 0 r.toNatClampNeg
abbrev xW (σ : sg) (r : Int32) : Int32 := σ.2.2.1 1 r.toNatClampNeg
abbrev xF (σ : sg) (q : Int32) : Int32 := σ.2.2.1 7 q.toNatClampNeg
abbrev xK (σ : sg) (q : Int32) : Int32 := σ.2.2.1 9 q.toNatClampNeg
abbrev xS (σ : sg) (q : Int32) : Int32 := σ.2.2.1 10 q.toNatClampNeg
abbrev xP (σ : sg) (q i : Int32) : Int64 := σ.2.2.2 (16 * q + i).toNatClampNeg
def s_bey (v a b : Int64) : Bool := decide (v < a ∨ b < v)
def s_no (r : Int32) : Bool := decide (r < 0 ∨ 9 < r)
def s_goes (k t : Int32) : Bool := decide (k = t ∨ (0 < k ∧ k < t ∧ t < 8 ∧ (3 < t ∨ (t = 3 ∧ k = 1))))
def s_as (k : Int32) (v : Int64) : Int64 := if k = 0 then (if v = 0 then 0 else 1) else if k = 1 then v.toInt32.toInt8.toInt32.toInt64 else if k = 2 then (v.toInt32.toUInt32 % 65536).toInt32.toInt64 else if k = 3 then v.toInt32.toInt16.toInt32.toInt64 else if k = 4 then v.toInt32.toInt64 else if k = 5 then v else if k = 6 then FP.f2l (FP.l2f v) else FP.d2l (FP.l2d v)
/-- an index outside a row of S places -/
def s_out (i S : Int32) : Bool := decide (i < 0 ∨ S - 1 < i)
def s_met1 (σ : sg) (f : Int32) : sg := sa (sa (si σ 16 f) 17 f.toNatClampNeg ((si σ 16 f).2.2.1 17 f.toNatClampNeg + 1)) 17 0 ((sa (si σ 16 f) 17 f.toNatClampNeg ((si σ 16 f).2.2.1 17 f.toNatClampNeg + 1)).2.2.1 17 0 + 1)
def s_ans (f good : Int32) : Int32 := if f ≤ 0 then good else -10 - f
def s_ansS (σ : sg) (f : Int32) : sg := if f ≤ 0 then σ else s_met1 σ f
def s_hold (σ : sg) (k : Int32) (v : Int64) : sg := sv (si (si σ 2 1) 3 k) v
def s_gF (σ : sg) (t q i : Int32) : Int32 := if t = 0 then 1 else if ¬ t = 3 then 2 else if s_out i (xS σ q) = true then 3 else 0
def s_rF (σ : sg) (t q i to : Int32) : Int32 := if t = 0 then 1 else if ¬ t = 3 then 2 else if ¬ xK σ q < 8 then 2 else if s_out i (xS σ q) = true then 3 else if s_goes (xK σ q) to = true then 0 else 2
def s_wF (σ : sg) (t q i of : Int32) : Int32 := if t = 0 then 1 else if ¬ t = 3 then 2 else if ¬ xK σ q < 8 then 2 else if s_out i (xS σ q) = true then 3 else if s_goes of (xK σ q) = true then 0 else 2
def s_unfit (σ : sg) (q : Int32) : Bool := if xK σ q < 8 then decide (¬ σ.1 2 = 1) || !(s_goes (σ.1 3) (xK σ q)) else decide (σ.1 2 = 1 ∨ (σ.1 2 = 2 ∧ (xK σ q = 10 ∨ (xK σ q = 9 ∧ xF σ (σ.1 5) = 0))) ∨ (σ.1 2 = 3 ∧ ¬ xK σ q = 10))
def s_sF (σ : sg) (r i : Int32) : Int32 := if ¬ xT σ r = 3 then (if xT σ r = 0 then 1 else 2) else if xK σ (xW σ r) < 8 ∧ σ.1 2 = 0 then 2 else if s_out i (xS σ (xW σ r)) = true then 3 else if s_unfit σ (xW σ r) = true then 2 else 0
def s_gets (σ : sg) (q i : Int32) : sg := if xK σ q < 8 then s_hold σ (xK σ q) (xP σ q i) else si (si σ 2 (if xP σ q i = 0 then 0 else if xK σ q = 10 then 3 else 2)) 5 (if xK σ q = 10 then xP σ q i - 1 else xP σ q i).toInt32
def s_getS (σ : sg) (r i : Int32) : sg := if s_gF σ (xT σ r) (xW σ r) i = 0 then s_gets σ (xW σ r) i else σ
def s_setV (σ : sg) (q : Int32) : Int64 := if σ.1 2 = 0 then 0 else if σ.1 2 = 1 then s_as (xK σ q) σ.2.1 else if σ.1 2 = 2 then (σ.1 5).toInt64 else (σ.1 5).toInt64 + 1
def s_setS (σ : sg) (r i : Int32) : sg := if s_sF σ r i = 0 then sp σ (16 * xW σ r + i).toNatClampNeg (s_setV σ (xW σ r)) else σ
def s_readS (σ : sg) (t q i to : Int32) : sg := if s_rF σ t q i to = 0 then s_hold σ to (s_as to (xP σ q i)) else σ
def s_writeS (σ : sg) (t q i of : Int32) (v : Int64) : sg := if s_wF σ t q i of = 0 then sp σ (16 * q + i).toNatClampNeg (s_as (xK σ q) (s_as of v)) else σ
def s_szF (σ : sg) (r : Int32) : Int32 := if xT σ r = 0 then 1 else if ¬ xT σ r = 3 then 2 else 0
def s_fiT (σ : sg) (q i : Int32) : Int32 := if xK σ q < 8 then 1 else if xP σ q i = 0 then 0 else if xK σ q = 10 then 3 else 2
def s_fiS (σ : sg) (r i : Int32) : sg := if s_gF σ (xT σ r) (xW σ r) i = 0 then si (si σ 18 (s_fiT σ (xW σ r) i)) 19 (if s_fiT σ (xW σ r) i = 3 then (xP σ (xW σ r) i).toInt32 - 1 else 0) else σ
def s_wiF (σ : sg) (r i j : Int32) : Int32 := if 0 < s_gF σ (xT σ r) (xW σ r) i then s_gF σ (xT σ r) (xW σ r) i else s_rF (s_fiS σ r i) ((s_fiS σ r i).1 18) ((s_fiS σ r i).1 19) j 5
def s_wiS (σ : sg) (r i j : Int32) : sg := if 0 < s_gF σ (xT σ r) (xW σ r) i then s_fiS σ r i else s_readS (s_fiS σ r i) ((s_fiS σ r i).1 18) ((s_fiS σ r i).1 19) j 5
def s_has (σ : sg) : Int32 := if σ.1 2 = 0 then -9 else if σ.1 2 = 1 then σ.1 3 else if σ.1 2 = 3 then 10 else if xF σ (σ.1 5) = 0 then 8 else 9
def s_val (σ : sg) : Int64 := if σ.1 2 = 0 then 0 else if σ.1 2 = 1 then σ.2.1 else if σ.1 2 = 2 then (σ.1 5).toInt64 else (xS σ (σ.1 5)).toInt64
def s_newS (σ : sg) (k n : Int32) : sg := (upd σ.1 8 (σ.1 8 + 1), σ.2.1, va_up (va_up σ.2.2.1 9 (upd (σ.2.2.1 9) (σ.1 8).toNatClampNeg k)) 10 (upd (σ.2.2.1 10) (σ.1 8).toNatClampNeg n), fun a => if 16 * (σ.1 8).toNatClampNeg ≤ a ∧ a < 16 * (σ.1 8).toNatClampNeg + 16 then 0 else σ.2.2.2 a)
theorem lt64 {a b : Int32} : a.toInt64 < b.toInt64 ↔ a < b := by
  rw [Int64.lt_iff_toInt_lt, Int32.lt_iff_toInt_lt, Int32.toInt_toInt64, Int32.toInt_toInt64]
theorem bey32 (i a b : Int32) : s_bey i.toInt64 a.toInt64 b.toInt64 = decide (i < a ∨ b < i) := by
  unfold s_bey
  congr 1
  rw [lt64, lt64]
def rk (σ : sg) (q : Int32) : Prop := vp_in q 5000 ∧ ∀ i, s_out i (xS σ q) = false → vp_in (16 * q + i) 80000
theorem no_bey (r : Int32) : s_bey r.toInt64 0 9 = s_no r := bey32 r 0 9
theorem no_in {r : Int32} (h : s_no r = false) : vp_in r 10 := by
  rw [vp_in_iff]
  unfold s_no at h
  simp only [decide_eq_false_iff_not, not_or, Int32.not_lt, Int32.le_iff_toInt_le] at h
  have h1 : (0 : Int32).toInt = 0 := by decide
  have h2 : (9 : Int32).toInt = 9 := by decide
  omega
theorem out_bey (i S : Int32) : s_bey i.toInt64 0 (S - 1).toInt64 = s_out i S := bey32 i 0 (S - 1)
end
section
section ZMC
variable {G : zh_G} {l : Launch} {y : MethodName} {cc : ByteArray} {n : Nat} {r : Option FieldType} {d mc ms0 pc : Nat} {lv : List (Nat × Value)} {st : List Value} {Q : Option Value → zh_H → Prop} {g : Nat → va_E} {σ : sg} {nn : Nat}
theorem zM_call (hn : zg_B G + 28 ≤ nn) {y1 : MethodName} {cc1 : ByteArray} {n1 d1 k idx : Nat} {r1 : Option FieldType} {As rest : List Value} {v0 : Option Value} {σ2 : sg} (hm : zm y.cls idx y1 cc1 n1 r1 k) (hs : Cond.instanceMethod y1 ∈ zw ∧ Cond.selects y1.cls y1 y1 ∈ zw) (hcn : RX8 = y1.cls) (hM : zc G l y1 cc1 n1 r1 d1 (.ref (zg_B G + 18) :: As) (ms G g σ, nn) 0 0 (fun v h' => v = v0 ∧ h' = (ms G g σ2, nn))) (hst : st = As.reverse ++ .ref (zg_B G + 18) :: rest) (hk : As.length = k) (hcat : (rest.map fun v => v.category).sum ≤ 8) (hdd : d1 + 1 ≤ d) (hd : decode cc pc = .ok (.invokevirtual idx, 3)) (kk : zv G l y cc n r d mc ms0 (pc + 3) lv (v0.toList ++ rest) (ms G g σ2, nn) Q) : zv G l y cc n r d mc ms0 pc lv st (ms G g σ, nn) Q := by
  rw [← Nat.zero_add mc, ← Nat.zero_add ms0]
  exact zv_callVq hm hs (ms_o G g σ) (by omega) (show zg_B G + 18 < nn by omega) rfl hcn hM hst hk hcat hdd hd kk
theorem zM_callg (hn : zg_B G + 28 ≤ nn) {y1 : MethodName} {cc1 : ByteArray} {n1 d1 k idx : Nat} {r1 : Option FieldType} {As rest : List Value} {v0 : Option Value} {σ2 : sg} (hm : zm y.cls idx y1 cc1 n1 r1 k) (hs : Cond.instanceMethod y1 ∈ zw ∧ Cond.selects y1.cls y1 y1 ∈ zw) (hcn : RX8 = y1.cls) (hM : zc G l y1 cc1 n1 r1 d1 (.ref (zg_B G + 18) :: As) (ms G g σ, nn) 0 0 (fun v h' => v = v0 ∧ h' = (ms G g σ2, nn))) (hst : st = As.reverse ++ .ref (zg_B G + 18) :: rest) (hk : As.length = k) (hcat : (rest.map fun v => v.category).sum ≤ 8) (hdd : d1 + 1 ≤ d) (hd : decode cc pc = .ok (.invokevirtual idx, 3)) (kk : ∀ σ3 : sg, σ3 = σ2 → zv G l y cc n r d mc ms0 (pc + 3) lv (v0.toList ++ rest) (ms G g σ3, nn) Q) : zv G l y cc n r d mc ms0 pc lv st (ms G g σ, nn) Q :=
  zM_call hn hm hs hcn hM hst hk hcat hdd hd (kk σ2 rfl)
end ZMC
set_option maxRecDepth 20000 in
set_option maxHeartbeats 4000000 in
theorem cM_beyond {G : zh_G} {l : Launch} {h : zh_H} {v a b : Int64} : zc G l yX8_beyond cX8_beyond 6 (some .boolean) 0 [.long v, .long a, .long b] h 0 0 (fun o h' => o = some (.int (zb (s_bey v a b))) ∧ h' = h) := by
  refine zc.of (by decide) (Nat.le_of_ble_eq_true rfl) ?_
  refine zv_lload_n dX8_beyond_0 rfl ?_
  refine zv_lload_n dX8_beyond_1 rfl ?_
  refine zv_lcmp dX8_beyond_2 ?_
  refine zv_if_lt (tgt := 13) dX8_beyond_3 (by decide) (fun c3 => ?_) (fun c3 => ?_)
  · skip
    refine zv_iconstv (v := 1) dX8_beyond_13 (by decide) ?_
    refine zv_goto (tgt := 18) dX8_beyond_14 (by decide) ?_
    exact zv_zreturn dX8_beyond_18 rfl (by decide) (by refine ⟨?_, rfl⟩; simp_all [s_bey, zb, cmp_lt, cmp_le])
  · skip
    refine zv_lload_n dX8_beyond_6 rfl ?_
    refine zv_lload dX8_beyond_7 rfl ?_
    refine zv_lcmp dX8_beyond_9 ?_
    refine zv_if_le (tgt := 17) dX8_beyond_10 (by decide) (fun c10 => ?_) (fun c10 => ?_)
    · skip
      refine zv_iconstv (v := 0) dX8_beyond_17 (by decide) ?_
      exact zv_zreturn dX8_beyond_18 rfl (by decide) (by refine ⟨?_, rfl⟩; simp_all [s_bey, zb, cmp_lt, cmp_le])
    · skip
      refine zv_iconstv (v := 1) dX8_beyond_13 (by decide) ?_
      refine zv_goto (tgt := 18) dX8_beyond_14 (by decide) ?_
      exact zv_zreturn dX8_beyond_18 rfl (by decide) (by refine ⟨?_, rfl⟩; simp_all [s_bey, zb, cmp_lt, cmp_le])
set_option maxRecDepth 20000 in
set_option maxHeartbeats 4000000 in
theorem cM_no {G : zh_G} {l : Launch} {h : zh_H} {r : Int32} : zc G l yX8_no cX8_no 1 (some .boolean) 1 [.int r] h 0 0 (fun o h' => o = some (.int (zb (s_no r))) ∧ h' = h) := by
  refine zc.of (by decide) (Nat.le_of_ble_eq_true rfl) ?_
  refine zv_iload_n dX8_no_0 rfl ?_
  refine zv_i2l dX8_no_1 ?_
  refine zv_lconstv (v := 0) dX8_no_2 (by decide) ?_
  refine zv_ldc2 dX8_no_3 zq_X8_40 ?_
  refine zv_callSq (mc := 0) (ms := 0) zm_X8_42 zkyX8_beyond cM_beyond rfl rfl (Nat.le_of_ble_eq_true rfl) (by decide) dX8_no_6 ?_
  exact zv_zreturn dX8_no_9 rfl (zb_nar _) ⟨by rw [no_bey], rfl⟩
set_option maxRecDepth 20000 in
set_option maxHeartbeats 4000000 in
theorem cM_goes {G : zh_G} {l : Launch} {h : zh_H} {k t : Int32} : zc G l yX8_goes cX8_goes 2 (some .boolean) 0 [.int k, .int t] h 0 0 (fun o h' => o = some (.int (zb (s_goes k t))) ∧ h' = h) := by
  refine zc.of (by decide) (Nat.le_of_ble_eq_true rfl) ?_
  refine zv_iload_n dX8_goes_0 rfl ?_
  refine zv_iload_n dX8_goes_1 rfl ?_
  refine zv_icmp_ne (tgt := 7) dX8_goes_2 (by decide) (fun c2 => ?_) (fun c2 => ?_)
  · skip
    refine zv_iload_n dX8_goes_7 rfl ?_
    refine zv_if_le (tgt := 41) dX8_goes_8 (by decide) (fun c8 => ?_) (fun c8 => ?_)
    · skip
      refine zv_iconstv (v := 0) dX8_goes_41 (by decide) ?_
      exact zv_zreturn dX8_goes_42 rfl (by decide) (by refine ⟨?_, rfl⟩; simp only [s_goes, zb, Int32.lt_iff_toInt_lt, Int32.le_iff_toInt_le, ← Int32.toInt_inj, show (0 : Int32).toInt = 0 from rfl, show (1 : Int32).toInt = 1 from rfl, show (3 : Int32).toInt = 3 from rfl, show (8 : Int32).toInt = 8 from rfl] at *; first | (rw [if_pos (by rw [decide_eq_true_iff]; omega)]) | (rw [if_neg (by rw [decide_eq_true_iff]; omega)]))
    · skip
      refine zv_iload_n dX8_goes_11 rfl ?_
      refine zv_iload_n dX8_goes_12 rfl ?_
      refine zv_icmp_ge (tgt := 41) dX8_goes_13 (by decide) (fun c13 => ?_) (fun c13 => ?_)
      · skip
        refine zv_iconstv (v := 0) dX8_goes_41 (by decide) ?_
        exact zv_zreturn dX8_goes_42 rfl (by decide) (by refine ⟨?_, rfl⟩; simp only [s_goes, zb, Int32.lt_iff_toInt_lt, Int32.le_iff_toInt_le, ← Int32.toInt_inj, show (0 : Int32).toInt = 0 from rfl, show (1 : Int32).toInt = 1 from rfl, show (3 : Int32).toInt = 3 from rfl, show (8 : Int32).toInt = 8 from rfl] at *; first | (rw [if_pos (by rw [decide_eq_true_iff]; omega)]) | (rw [if_neg (by rw [decide_eq_true_iff]; omega)]))
      · skip
        refine zv_iload_n dX8_goes_16 rfl ?_
        refine zv_bipushv (v := 8) dX8_goes_17 (by decide) ?_
        refine zv_icmp_ge (tgt := 41) dX8_goes_19 (by decide) (fun c19 => ?_) (fun c19 => ?_)
        · skip
          refine zv_iconstv (v := 0) dX8_goes_41 (by decide) ?_
          exact zv_zreturn dX8_goes_42 rfl (by decide) (by refine ⟨?_, rfl⟩; simp only [s_goes, zb, Int32.lt_iff_toInt_lt, Int32.le_iff_toInt_le, ← Int32.toInt_inj, show (0 : Int32).toInt = 0 from rfl, show (1 : Int32).toInt = 1 from rfl, show (3 : Int32).toInt = 3 from rfl, show (8 : Int32).toInt = 8 from rfl] at *; first | (rw [if_pos (by rw [decide_eq_true_iff]; omega)]) | (rw [if_neg (by rw [decide_eq_true_iff]; omega)]))
        · skip
          refine zv_iload_n dX8_goes_22 rfl ?_
          refine zv_iconstv (v := 3) dX8_goes_23 (by decide) ?_
          refine zv_icmp_gt (tgt := 37) dX8_goes_24 (by decide) (fun c24 => ?_) (fun c24 => ?_)
          · skip
            refine zv_iconstv (v := 1) dX8_goes_37 (by decide) ?_
            refine zv_goto (tgt := 42) dX8_goes_38 (by decide) ?_
            exact zv_zreturn dX8_goes_42 rfl (by decide) (by refine ⟨?_, rfl⟩; simp only [s_goes, zb, Int32.lt_iff_toInt_lt, Int32.le_iff_toInt_le, ← Int32.toInt_inj, show (0 : Int32).toInt = 0 from rfl, show (1 : Int32).toInt = 1 from rfl, show (3 : Int32).toInt = 3 from rfl, show (8 : Int32).toInt = 8 from rfl] at *; first | (rw [if_pos (by rw [decide_eq_true_iff]; omega)]) | (rw [if_neg (by rw [decide_eq_true_iff]; omega)]))
          · skip
            refine zv_iload_n dX8_goes_27 rfl ?_
            refine zv_iconstv (v := 3) dX8_goes_28 (by decide) ?_
            refine zv_icmp_ne (tgt := 41) dX8_goes_29 (by decide) (fun c29 => ?_) (fun c29 => ?_)
            · skip
              refine zv_iconstv (v := 0) dX8_goes_41 (by decide) ?_
              exact zv_zreturn dX8_goes_42 rfl (by decide) (by refine ⟨?_, rfl⟩; simp only [s_goes, zb, Int32.lt_iff_toInt_lt, Int32.le_iff_toInt_le, ← Int32.toInt_inj, show (0 : Int32).toInt = 0 from rfl, show (1 : Int32).toInt = 1 from rfl, show (3 : Int32).toInt = 3 from rfl, show (8 : Int32).toInt = 8 from rfl] at *; first | (rw [if_pos (by rw [decide_eq_true_iff]; omega)]) | (rw [if_neg (by rw [decide_eq_true_iff]; omega)]))
            · skip
              refine zv_iload_n dX8_goes_32 rfl ?_
              refine zv_iconstv (v := 1) dX8_goes_33 (by decide) ?_
              refine zv_icmp_ne (tgt := 41) dX8_goes_34 (by decide) (fun c34 => ?_) (fun c34 => ?_)
              · skip
                refine zv_iconstv (v := 0) dX8_goes_41 (by decide) ?_
                exact zv_zreturn dX8_goes_42 rfl (by decide) (by refine ⟨?_, rfl⟩; simp only [s_goes, zb, Int32.lt_iff_toInt_lt, Int32.le_iff_toInt_le, ← Int32.toInt_inj, show (0 : Int32).toInt = 0 from rfl, show (1 : Int32).toInt = 1 from rfl, show (3 : Int32).toInt = 3 from rfl, show (8 : Int32).toInt = 8 from rfl] at *; first | (rw [if_pos (by rw [decide_eq_true_iff]; omega)]) | (rw [if_neg (by rw [decide_eq_true_iff]; omega)]))
              · skip
                refine zv_iconstv (v := 1) dX8_goes_37 (by decide) ?_
                refine zv_goto (tgt := 42) dX8_goes_38 (by decide) ?_
                exact zv_zreturn dX8_goes_42 rfl (by decide) (by refine ⟨?_, rfl⟩; simp only [s_goes, zb, Int32.lt_iff_toInt_lt, Int32.le_iff_toInt_le, ← Int32.toInt_inj, show (0 : Int32).toInt = 0 from rfl, show (1 : Int32).toInt = 1 from rfl, show (3 : Int32).toInt = 3 from rfl, show (8 : Int32).toInt = 8 from rfl] at *; first | (rw [if_pos (by rw [decide_eq_true_iff]; omega)]) | (rw [if_neg (by rw [decide_eq_true_iff]; omega)]))
  · skip
    refine zv_iconstv (v := 1) dX8_goes_5 (by decide) ?_
    exact zv_zreturn dX8_goes_6 rfl (by decide) (by refine ⟨?_, rfl⟩; simp only [s_goes, zb, Int32.lt_iff_toInt_lt, Int32.le_iff_toInt_le, ← Int32.toInt_inj, show (0 : Int32).toInt = 0 from rfl, show (1 : Int32).toInt = 1 from rfl, show (3 : Int32).toInt = 3 from rfl, show (8 : Int32).toInt = 8 from rfl] at *; first | (rw [if_pos (by rw [decide_eq_true_iff]; omega)]) | (rw [if_neg (by rw [decide_eq_true_iff]; omega)]))
set_option maxRecDepth 20000 in
set_option maxHeartbeats 4000000 in
theorem cM_as {G : zh_G} {l : Launch} {h : zh_H} {k : Int32} {v : Int64} : zc G l yX8_as cX8_as 3 (some .long) 0 [.int k, .long v] h 0 0 (fun o h' => o = some (.long (s_as k v)) ∧ h' = h) := by
  refine zc.of (by decide) (Nat.le_of_ble_eq_true rfl) ?_
  refine zv_iload_n dX8_as_0 rfl ?_
  by_cases e0 : k = 0
  · subst e0
    refine zv_tableIn (tgt := 44) dX8_as_1 (by decide) (by decide) rfl (by decide) ?_
    refine zv_lload_n dX8_as_44 rfl ?_
    refine zv_lconstv (v := 0) dX8_as_45 (by decide) ?_
    refine zv_lcmp dX8_as_46 ?_
    refine zv_if_eq (tgt := 54) dX8_as_47 (by decide) (fun c47 => ?_) (fun c47 => ?_)
    · skip
      refine zv_lconstv (v := 0) dX8_as_54 (by decide) ?_
      exact zv_lreturn dX8_as_55 rfl (by refine ⟨?_, rfl⟩; simp_all [s_as, cmp_eq])
    · skip
      refine zv_lconstv (v := 1) dX8_as_50 (by decide) ?_
      refine zv_goto (tgt := 55) dX8_as_51 (by decide) ?_
      exact zv_lreturn dX8_as_55 rfl (by refine ⟨?_, rfl⟩; simp_all [s_as, cmp_eq])
  by_cases e1 : k = 1
  · subst e1
    refine zv_tableIn (tgt := 56) dX8_as_1 (by decide) (by decide) rfl (by decide) ?_
    refine zv_lload_n dX8_as_56 rfl ?_
    refine zv_l2i dX8_as_57 ?_
    refine zv_i2b dX8_as_58 ?_
    refine zv_i2l dX8_as_59 ?_
    exact zv_lreturn dX8_as_60 rfl (by refine ⟨?_, rfl⟩; simp_all [s_as, cmp_eq])
  by_cases e2 : k = 2
  · subst e2
    refine zv_tableIn (tgt := 61) dX8_as_1 (by decide) (by decide) rfl (by decide) ?_
    refine zv_lload_n dX8_as_61 rfl ?_
    refine zv_l2i dX8_as_62 ?_
    refine zv_i2c dX8_as_63 ?_
    refine zv_i2l dX8_as_64 ?_
    exact zv_lreturn dX8_as_65 rfl (by refine ⟨?_, rfl⟩; simp_all [s_as, cmp_eq])
  by_cases e3 : k = 3
  · subst e3
    refine zv_tableIn (tgt := 66) dX8_as_1 (by decide) (by decide) rfl (by decide) ?_
    refine zv_lload_n dX8_as_66 rfl ?_
    refine zv_l2i dX8_as_67 ?_
    refine zv_i2s dX8_as_68 ?_
    refine zv_i2l dX8_as_69 ?_
    exact zv_lreturn dX8_as_70 rfl (by refine ⟨?_, rfl⟩; simp_all [s_as, cmp_eq])
  by_cases e4 : k = 4
  · subst e4
    refine zv_tableIn (tgt := 71) dX8_as_1 (by decide) (by decide) rfl (by decide) ?_
    refine zv_lload_n dX8_as_71 rfl ?_
    refine zv_l2i dX8_as_72 ?_
    refine zv_i2l dX8_as_73 ?_
    exact zv_lreturn dX8_as_74 rfl (by refine ⟨?_, rfl⟩; simp_all [s_as, cmp_eq])
  by_cases e5 : k = 5
  · subst e5
    refine zv_tableIn (tgt := 75) dX8_as_1 (by decide) (by decide) rfl (by decide) ?_
    refine zv_lload_n dX8_as_75 rfl ?_
    exact zv_lreturn dX8_as_76 rfl (by refine ⟨?_, rfl⟩; simp_all [s_as, cmp_eq])
  by_cases e6 : k = 6
  · subst e6
    refine zv_tableIn (tgt := 77) dX8_as_1 (by decide) (by decide) rfl (by decide) ?_
    refine zv_lload_n dX8_as_77 rfl ?_
    refine zv_l2f dX8_as_78 ?_
    refine zv_f2l dX8_as_79 ?_
    exact zv_lreturn dX8_as_80 rfl (by refine ⟨?_, rfl⟩; simp_all [s_as, cmp_eq])
  have hout : k.toInt < 0 ∨ 6 < k.toInt := by
    have := lv_neT (a := 0) e0 (by decide); have := lv_neT (a := 1) e1 (by decide); have := lv_neT (a := 2) e2 (by decide); have := lv_neT (a := 3) e3 (by decide); have := lv_neT (a := 4) e4 (by decide); have := lv_neT (a := 5) e5 (by decide); have := lv_neT (a := 6) e6 (by decide)
    omega
  refine zv_tableOut (tgt := 81) dX8_as_1 hout (by decide) ?_
  refine zv_lload_n dX8_as_81 rfl ?_
  refine zv_l2d dX8_as_82 ?_
  refine zv_d2l dX8_as_83 ?_
  exact zv_lreturn dX8_as_84 rfl (by refine ⟨?_, rfl⟩; simp_all [s_as, cmp_eq])
set_option maxRecDepth 20000 in
set_option maxHeartbeats 4000000 in
theorem cM_met1 {G : zh_G} {l : Launch} {g : Nat → va_E} {nn : Nat} {σ : sg} (hn : zg_B G + 28 ≤ nn) {f : Int32} (hf : vp_in f 4) : zc G l yX8_met1 cX8_met1 2 (some .int) 0 [.ref (zg_B G + 18), .int f] (ms G g σ, nn) 0 0 (fun o h' => o = some (.int f) ∧ h' = (ms G g (s_met1 σ f), nn)) := by
  refine zc.of (by decide) (Nat.le_of_ble_eq_true rfl) ?_
  refine zv_aload_n dX8_met1_0 rfl ?_
  refine zv_iload_n dX8_met1_1 rfl ?_
  refine zM_put16 hn zfw_X8_46_6 dX8_met1_2 ?_
  refine zv_aload_n dX8_met1_5 rfl ?_
  refine zM_get hn zf_X8_37_6 rfl dX8_met1_6 ?_
  refine zv_iload_n dX8_met1_9 rfl ?_
  refine zv_dup2 dX8_met1_10 rfl rfl ?_
  refine zM_ald17 hn (by first | exact hf | exact vp_in_nI (n := 0) (N := 4) (by decide) (by decide)) dX8_met1_11 ?_
  refine zv_iconstv (v := 1) dX8_met1_12 (by decide) ?_
  refine zv_iadd dX8_met1_13 ?_
  refine zM_ast17 hn (by first | exact hf | exact vp_in_nI (n := 0) (N := 4) (by decide) (by decide)) dX8_met1_14 ?_
  refine zv_aload_n dX8_met1_15 rfl ?_
  refine zM_get hn zf_X8_37_6 rfl dX8_met1_16 ?_
  refine zv_iconstv (v := 0) dX8_met1_19 (by decide) ?_
  refine zv_dup2 dX8_met1_20 rfl rfl ?_
  refine zM_ald17 hn (by first | exact hf | exact vp_in_nI (n := 0) (N := 4) (by decide) (by decide)) dX8_met1_21 ?_
  refine zv_iconstv (v := 1) dX8_met1_22 (by decide) ?_
  refine zv_iadd dX8_met1_23 ?_
  refine zM_ast17 hn (by first | exact hf | exact vp_in_nI (n := 0) (N := 4) (by decide) (by decide)) dX8_met1_24 ?_
  refine zv_iload_n dX8_met1_25 rfl ?_
  exact zv_ireturn dX8_met1_26 rfl ⟨rfl, rfl⟩
set_option maxRecDepth 20000 in
set_option maxHeartbeats 4000000 in
theorem cM_answer {G : zh_G} {l : Launch} {g : Nat → va_E} {nn : Nat} {σ : sg} (hn : zg_B G + 28 ≤ nn) {f good : Int32} (hf : ¬ f ≤ 0 → vp_in f 4) : zc G l yX8_answer cX8_answer 3 (some .int) 1 [.ref (zg_B G + 18), .int f, .int good] (ms G g σ, nn) 0 0 (fun o h' => o = some (.int (s_ans f good)) ∧ h' = (ms G g (s_ansS σ f), nn)) := by
  refine zc.of (by decide) (Nat.le_of_ble_eq_true rfl) ?_
  refine zv_iload_n dX8_answer_0 rfl ?_
  refine zv_if_le (tgt := 15) dX8_answer_1 (by decide) (fun c1 => ?_) (fun c1 => ?_)
  · skip
    refine zv_iload_n dX8_answer_15 rfl ?_
    exact zv_ireturn dX8_answer_16 rfl (by simp only [s_ans, s_ansS]; simp [c1])
  · skip
    refine zv_bipushv (v := (-10)) dX8_answer_4 (by decide) ?_
    refine zv_aload_n dX8_answer_6 rfl ?_
    refine zv_iload_n dX8_answer_7 rfl ?_
    refine zM_call hn zm_X8_50 zkyX8_met1 rfl (cM_met1 hn (hf c1)) rfl rfl (Nat.le_of_ble_eq_true rfl) (by decide) dX8_answer_8 ?_
    refine zv_isub dX8_answer_11 ?_
    refine zv_goto (tgt := 16) dX8_answer_12 (by decide) ?_
    exact zv_ireturn dX8_answer_16 rfl (by simp only [s_ans, s_ansS]; simp [c1])
set_option maxRecDepth 20000 in
set_option maxHeartbeats 4000000 in
theorem cM_hold {G : zh_G} {l : Launch} {g : Nat → va_E} {nn : Nat} {σ : sg} (hn : zg_B G + 28 ≤ nn) {k : Int32} {v : Int64} : zc G l yX8_hold cX8_hold 4 none 0 [.ref (zg_B G + 18), .int k, .long v] (ms G g σ, nn) 0 0 (fun o h' => o = none ∧ h' = (ms G g (s_hold σ k v), nn)) := by
  refine zc.of (by decide) (Nat.le_of_ble_eq_true rfl) ?_
  refine zv_aload_n dX8_hold_0 rfl ?_
  refine zv_iconstv (v := 1) dX8_hold_1 (by decide) ?_
  refine zM_put2 hn zfw_X8_69_6 dX8_hold_2 ?_
  refine zv_aload_n dX8_hold_5 rfl ?_
  refine zv_iload_n dX8_hold_6 rfl ?_
  refine zM_put3 hn zfw_X8_75_6 dX8_hold_7 ?_
  refine zv_aload_n dX8_hold_10 rfl ?_
  refine zv_lload_n dX8_hold_11 rfl ?_
  refine zM_put4 hn zfw_X8_78_6 dX8_hold_12 ?_
  exact zv_return dX8_hold_15 rfl ⟨rfl, rfl⟩
end
section
theorem rk_i {σ : sg} {q : Int32} (h : rk σ q) : vp_in q 5000 := h.1
theorem rk_p {σ : sg} {q : Int32} (h : rk σ q) (i : Int32) (hi : s_out i (xS σ q) = false) : vp_in (16 * q + i) 80000 := h.2 i hi
set_option maxRecDepth 20000 in
set_option maxHeartbeats 4000000 in
theorem cM_isNumbers {G : zh_G} {l : Launch} {g : Nat → va_E} {nn : Nat} {σ : sg} (hn : zg_B G + 28 ≤ nn) {q : Int32} (hr : vp_in q 5000) : zc G l yX8_isNumbers cX8_isNumbers 2 (some .boolean) 0 [.ref (zg_B G + 18), .int q] (ms G g σ, nn) 0 0 (fun o h' => o = some (.int (zb (decide (xK σ q < 8)))) ∧ h' = (ms G g σ, nn)) := by
  refine zc.of (by decide) (Nat.le_of_ble_eq_true rfl) ?_
  refine zv_aload_n dX8_isNumbers_0 rfl ?_
  refine zM_get hn zf_X8_20_6 rfl dX8_isNumbers_1 ?_
  refine zv_iload_n dX8_isNumbers_4 rfl ?_
  refine zM_ald9 hn (by first | with_reducible assumption | with_reducible exact hr | with_reducible exact rk_i (hq (by assumption)) | with_reducible exact rk_i (hq (by simp_all)) | with_reducible exact rk_p (hq (by simp_all)) _ (by simp_all)) dX8_isNumbers_5 ?_
  refine zv_bipushv (v := 8) dX8_isNumbers_6 (by decide) ?_
  refine zv_icmp_ge (tgt := 15) dX8_isNumbers_8 (by decide) (fun c8 => ?_) (fun c8 => ?_)
  · skip
    refine zv_iconstv (v := 0) dX8_isNumbers_15 (by decide) ?_
    exact zv_zreturn dX8_isNumbers_16 rfl (by decide) (by refine ⟨?_, ?_⟩ <;> simp_all [-Int32.not_lt, -Int32.not_le, ← Int32.not_lt, xT, xW, xK, xS, xF, xP, zb_0, zb_n, out_bey, zb])
  · skip
    refine zv_iconstv (v := 1) dX8_isNumbers_11 (by decide) ?_
    refine zv_goto (tgt := 16) dX8_isNumbers_12 (by decide) ?_
    exact zv_zreturn dX8_isNumbers_16 rfl (by decide) (by refine ⟨?_, ?_⟩ <;> simp_all [-Int32.not_lt, -Int32.not_le, ← Int32.not_lt, xT, xW, xK, xS, xF, xP, zb_0, zb_n, out_bey, zb])
set_option maxRecDepth 20000 in
set_option maxHeartbeats 4000000 in
theorem cM_getFault {G : zh_G} {l : Launch} {g : Nat → va_E} {nn : Nat} {σ : sg} (hn : zg_B G + 28 ≤ nn) {t q i : Int32} (hq : t = 3 → rk σ q) : zc G l yX8_getFault cX8_getFault 4 (some .int) 1 [.ref (zg_B G + 18), .int t, .int q, .int i] (ms G g σ, nn) 0 0 (fun o h' => o = some (.int (s_gF σ t q i)) ∧ h' = (ms G g σ, nn)) := by
  refine zc.of (by decide) (Nat.le_of_ble_eq_true rfl) ?_
  refine zv_iload_n dX8_getFault_0 rfl ?_
  refine zv_if_ne (tgt := 8) dX8_getFault_1 (by decide) (fun c1 => ?_) (fun c1 => ?_)
  · skip
    refine zv_iload_n dX8_getFault_8 rfl ?_
    refine zv_iconstv (v := 3) dX8_getFault_9 (by decide) ?_
    refine zv_icmp_eq (tgt := 17) dX8_getFault_10 (by decide) (fun c10 => ?_) (fun c10 => ?_)
    · skip
      refine zv_iload_n dX8_getFault_17 rfl ?_
      refine zv_i2l dX8_getFault_18 ?_
      refine zv_lconstv (v := 0) dX8_getFault_19 (by decide) ?_
      refine zv_aload_n dX8_getFault_20 rfl ?_
      refine zM_get hn zf_X8_23_6 rfl dX8_getFault_21 ?_
      refine zv_iload_n dX8_getFault_24 rfl ?_
      refine zM_ald10 hn (by first | with_reducible assumption | with_reducible exact hr | with_reducible exact rk_i (hq (by assumption)) | with_reducible exact rk_i (hq (by simp_all)) | with_reducible exact rk_p (hq (by simp_all)) _ (by simp_all)) dX8_getFault_25 ?_
      refine zv_iconstv (v := 1) dX8_getFault_26 (by decide) ?_
      refine zv_isub dX8_getFault_27 ?_
      refine zv_i2l dX8_getFault_28 ?_
      refine zv_callSq (mc := 0) (ms := 0) zm_X8_42 zkyX8_beyond cM_beyond rfl rfl (Nat.le_of_ble_eq_true rfl) (by decide) dX8_getFault_29 ?_
      refine zv_if_eq (tgt := 39) dX8_getFault_32 (by decide) (fun c32 => ?_) (fun c32 => ?_)
      · skip
        refine zv_iconstv (v := 0) dX8_getFault_39 (by decide) ?_
        exact zv_ireturn dX8_getFault_40 rfl (by refine ⟨?_, ?_⟩ <;> simp_all [-Int32.not_lt, -Int32.not_le, ← Int32.not_lt, xT, xW, xK, xS, xF, xP, zb_0, zb_n, out_bey, s_gF])
      · skip
        refine zv_iconstv (v := 3) dX8_getFault_35 (by decide) ?_
        refine zv_goto (tgt := 40) dX8_getFault_36 (by decide) ?_
        exact zv_ireturn dX8_getFault_40 rfl (by refine ⟨?_, ?_⟩ <;> simp_all [-Int32.not_lt, -Int32.not_le, ← Int32.not_lt, xT, xW, xK, xS, xF, xP, zb_0, zb_n, out_bey, s_gF])
    · skip
      refine zv_iconstv (v := 2) dX8_getFault_13 (by decide) ?_
      refine zv_goto (tgt := 40) dX8_getFault_14 (by decide) ?_
      exact zv_ireturn dX8_getFault_40 rfl (by refine ⟨?_, ?_⟩ <;> simp_all [-Int32.not_lt, -Int32.not_le, ← Int32.not_lt, xT, xW, xK, xS, xF, xP, zb_0, zb_n, out_bey, s_gF])
  · skip
    refine zv_iconstv (v := 1) dX8_getFault_4 (by decide) ?_
    refine zv_goto (tgt := 40) dX8_getFault_5 (by decide) ?_
    exact zv_ireturn dX8_getFault_40 rfl (by refine ⟨?_, ?_⟩ <;> simp_all [-Int32.not_lt, -Int32.not_le, ← Int32.not_lt, xT, xW, xK, xS, xF, xP, zb_0, zb_n, out_bey, s_gF])
set_option maxRecDepth 20000 in
set_option maxHeartbeats 4000000 in
theorem cM_readFault {G : zh_G} {l : Launch} {g : Nat → va_E} {nn : Nat} {σ : sg} (hn : zg_B G + 28 ≤ nn) {t q i to : Int32} (hq : t = 3 → rk σ q) : zc G l yX8_readFault cX8_readFault 5 (some .int) 1 [.ref (zg_B G + 18), .int t, .int q, .int i, .int to] (ms G g σ, nn) 0 0 (fun o h' => o = some (.int (s_rF σ t q i to)) ∧ h' = (ms G g σ, nn)) := by
  refine zc.of (by decide) (Nat.le_of_ble_eq_true rfl) ?_
  refine zv_iload_n dX8_readFault_0 rfl ?_
  refine zv_if_ne (tgt := 8) dX8_readFault_1 (by decide) (fun c1 => ?_) (fun c1 => ?_)
  · skip
    refine zv_iload_n dX8_readFault_8 rfl ?_
    refine zv_iconstv (v := 3) dX8_readFault_9 (by decide) ?_
    refine zv_icmp_ne (tgt := 21) dX8_readFault_10 (by decide) (fun c10 => ?_) (fun c10 => ?_)
    · skip
      refine zv_iconstv (v := 2) dX8_readFault_21 (by decide) ?_
      refine zv_goto (tgt := 66) dX8_readFault_22 (by decide) ?_
      exact zv_ireturn dX8_readFault_66 rfl (by refine ⟨?_, ?_⟩ <;> simp_all [-Int32.not_lt, -Int32.not_le, ← Int32.not_lt, xT, xW, xK, xS, xF, xP, zb_0, zb_n, out_bey, s_rF])
    · skip
      refine zv_aload_n dX8_readFault_13 rfl ?_
      refine zv_iload_n dX8_readFault_14 rfl ?_
      refine zM_call hn zm_X8_97 zkyX8_isNumbers rfl (cM_isNumbers hn (rk_i (hq (by simp_all)))) rfl rfl (Nat.le_of_ble_eq_true rfl) (by decide) dX8_readFault_15 ?_
      refine zv_if_ne (tgt := 25) dX8_readFault_18 (by decide) (fun c18 => ?_) (fun c18 => ?_)
      · skip
        refine zv_iload_n dX8_readFault_25 rfl ?_
        refine zv_i2l dX8_readFault_26 ?_
        refine zv_lconstv (v := 0) dX8_readFault_27 (by decide) ?_
        refine zv_aload_n dX8_readFault_28 rfl ?_
        refine zM_get hn zf_X8_23_6 rfl dX8_readFault_29 ?_
        refine zv_iload_n dX8_readFault_32 rfl ?_
        refine zM_ald10 hn (by first | with_reducible assumption | with_reducible exact hr | with_reducible exact rk_i (hq (by assumption)) | with_reducible exact rk_i (hq (by simp_all)) | with_reducible exact rk_p (hq (by simp_all)) _ (by simp_all)) dX8_readFault_33 ?_
        refine zv_iconstv (v := 1) dX8_readFault_34 (by decide) ?_
        refine zv_isub dX8_readFault_35 ?_
        refine zv_i2l dX8_readFault_36 ?_
        refine zv_callSq (mc := 0) (ms := 0) zm_X8_42 zkyX8_beyond cM_beyond rfl rfl (Nat.le_of_ble_eq_true rfl) (by decide) dX8_readFault_37 ?_
        refine zv_if_eq (tgt := 47) dX8_readFault_40 (by decide) (fun c40 => ?_) (fun c40 => ?_)
        · skip
          refine zv_aload_n dX8_readFault_47 rfl ?_
          refine zM_get hn zf_X8_20_6 rfl dX8_readFault_48 ?_
          refine zv_iload_n dX8_readFault_51 rfl ?_
          refine zM_ald9 hn (by first | with_reducible assumption | with_reducible exact hr | with_reducible exact rk_i (hq (by assumption)) | with_reducible exact rk_i (hq (by simp_all)) | with_reducible exact rk_p (hq (by simp_all)) _ (by simp_all)) dX8_readFault_52 ?_
          refine zv_iload dX8_readFault_53 rfl ?_
          refine zv_callSq (mc := 0) (ms := 0) zm_X8_100 zkyX8_goes cM_goes rfl rfl (Nat.le_of_ble_eq_true rfl) (by decide) dX8_readFault_55 ?_
          refine zv_if_eq (tgt := 65) dX8_readFault_58 (by decide) (fun c58 => ?_) (fun c58 => ?_)
          · skip
            refine zv_iconstv (v := 2) dX8_readFault_65 (by decide) ?_
            exact zv_ireturn dX8_readFault_66 rfl (by refine ⟨?_, ?_⟩ <;> simp_all [-Int32.not_lt, -Int32.not_le, ← Int32.not_lt, xT, xW, xK, xS, xF, xP, zb_0, zb_n, out_bey, s_rF])
          · skip
            refine zv_iconstv (v := 0) dX8_readFault_61 (by decide) ?_
            refine zv_goto (tgt := 66) dX8_readFault_62 (by decide) ?_
            exact zv_ireturn dX8_readFault_66 rfl (by refine ⟨?_, ?_⟩ <;> simp_all [-Int32.not_lt, -Int32.not_le, ← Int32.not_lt, xT, xW, xK, xS, xF, xP, zb_0, zb_n, out_bey, s_rF])
        · skip
          refine zv_iconstv (v := 3) dX8_readFault_43 (by decide) ?_
          refine zv_goto (tgt := 66) dX8_readFault_44 (by decide) ?_
          exact zv_ireturn dX8_readFault_66 rfl (by refine ⟨?_, ?_⟩ <;> simp_all [-Int32.not_lt, -Int32.not_le, ← Int32.not_lt, xT, xW, xK, xS, xF, xP, zb_0, zb_n, out_bey, s_rF])
      · skip
        refine zv_iconstv (v := 2) dX8_readFault_21 (by decide) ?_
        refine zv_goto (tgt := 66) dX8_readFault_22 (by decide) ?_
        exact zv_ireturn dX8_readFault_66 rfl (by refine ⟨?_, ?_⟩ <;> simp_all [-Int32.not_lt, -Int32.not_le, ← Int32.not_lt, xT, xW, xK, xS, xF, xP, zb_0, zb_n, out_bey, s_rF])
  · skip
    refine zv_iconstv (v := 1) dX8_readFault_4 (by decide) ?_
    refine zv_goto (tgt := 66) dX8_readFault_5 (by decide) ?_
    exact zv_ireturn dX8_readFault_66 rfl (by refine ⟨?_, ?_⟩ <;> simp_all [-Int32.not_lt, -Int32.not_le, ← Int32.not_lt, xT, xW, xK, xS, xF, xP, zb_0, zb_n, out_bey, s_rF])
set_option maxRecDepth 20000 in
set_option maxHeartbeats 4000000 in
theorem cM_writeFault {G : zh_G} {l : Launch} {g : Nat → va_E} {nn : Nat} {σ : sg} (hn : zg_B G + 28 ≤ nn) {t q i of : Int32} (hq : t = 3 → rk σ q) : zc G l yX8_writeFault cX8_writeFault 5 (some .int) 1 [.ref (zg_B G + 18), .int t, .int q, .int i, .int of] (ms G g σ, nn) 0 0 (fun o h' => o = some (.int (s_wF σ t q i of)) ∧ h' = (ms G g σ, nn)) := by
  refine zc.of (by decide) (Nat.le_of_ble_eq_true rfl) ?_
  refine zv_iload_n dX8_writeFault_0 rfl ?_
  refine zv_if_ne (tgt := 8) dX8_writeFault_1 (by decide) (fun c1 => ?_) (fun c1 => ?_)
  · skip
    refine zv_iload_n dX8_writeFault_8 rfl ?_
    refine zv_iconstv (v := 3) dX8_writeFault_9 (by decide) ?_
    refine zv_icmp_ne (tgt := 21) dX8_writeFault_10 (by decide) (fun c10 => ?_) (fun c10 => ?_)
    · skip
      refine zv_iconstv (v := 2) dX8_writeFault_21 (by decide) ?_
      refine zv_goto (tgt := 66) dX8_writeFault_22 (by decide) ?_
      exact zv_ireturn dX8_writeFault_66 rfl (by refine ⟨?_, ?_⟩ <;> simp_all [-Int32.not_lt, -Int32.not_le, ← Int32.not_lt, xT, xW, xK, xS, xF, xP, zb_0, zb_n, out_bey, s_wF])
    · skip
      refine zv_aload_n dX8_writeFault_13 rfl ?_
      refine zv_iload_n dX8_writeFault_14 rfl ?_
      refine zM_call hn zm_X8_97 zkyX8_isNumbers rfl (cM_isNumbers hn (rk_i (hq (by simp_all)))) rfl rfl (Nat.le_of_ble_eq_true rfl) (by decide) dX8_writeFault_15 ?_
      refine zv_if_ne (tgt := 25) dX8_writeFault_18 (by decide) (fun c18 => ?_) (fun c18 => ?_)
      · skip
        refine zv_iload_n dX8_writeFault_25 rfl ?_
        refine zv_i2l dX8_writeFault_26 ?_
        refine zv_lconstv (v := 0) dX8_writeFault_27 (by decide) ?_
        refine zv_aload_n dX8_writeFault_28 rfl ?_
        refine zM_get hn zf_X8_23_6 rfl dX8_writeFault_29 ?_
        refine zv_iload_n dX8_writeFault_32 rfl ?_
        refine zM_ald10 hn (by first | with_reducible assumption | with_reducible exact hr | with_reducible exact rk_i (hq (by assumption)) | with_reducible exact rk_i (hq (by simp_all)) | with_reducible exact rk_p (hq (by simp_all)) _ (by simp_all)) dX8_writeFault_33 ?_
        refine zv_iconstv (v := 1) dX8_writeFault_34 (by decide) ?_
        refine zv_isub dX8_writeFault_35 ?_
        refine zv_i2l dX8_writeFault_36 ?_
        refine zv_callSq (mc := 0) (ms := 0) zm_X8_42 zkyX8_beyond cM_beyond rfl rfl (Nat.le_of_ble_eq_true rfl) (by decide) dX8_writeFault_37 ?_
        refine zv_if_eq (tgt := 47) dX8_writeFault_40 (by decide) (fun c40 => ?_) (fun c40 => ?_)
        · skip
          refine zv_iload dX8_writeFault_47 rfl ?_
          refine zv_aload_n dX8_writeFault_49 rfl ?_
          refine zM_get hn zf_X8_20_6 rfl dX8_writeFault_50 ?_
          refine zv_iload_n dX8_writeFault_53 rfl ?_
          refine zM_ald9 hn (by first | with_reducible assumption | with_reducible exact hr | with_reducible exact rk_i (hq (by assumption)) | with_reducible exact rk_i (hq (by simp_all)) | with_reducible exact rk_p (hq (by simp_all)) _ (by simp_all)) dX8_writeFault_54 ?_
          refine zv_callSq (mc := 0) (ms := 0) zm_X8_100 zkyX8_goes cM_goes rfl rfl (Nat.le_of_ble_eq_true rfl) (by decide) dX8_writeFault_55 ?_
          refine zv_if_eq (tgt := 65) dX8_writeFault_58 (by decide) (fun c58 => ?_) (fun c58 => ?_)
          · skip
            refine zv_iconstv (v := 2) dX8_writeFault_65 (by decide) ?_
            exact zv_ireturn dX8_writeFault_66 rfl (by refine ⟨?_, ?_⟩ <;> simp_all [-Int32.not_lt, -Int32.not_le, ← Int32.not_lt, xT, xW, xK, xS, xF, xP, zb_0, zb_n, out_bey, s_wF])
          · skip
            refine zv_iconstv (v := 0) dX8_writeFault_61 (by decide) ?_
            refine zv_goto (tgt := 66) dX8_writeFault_62 (by decide) ?_
            exact zv_ireturn dX8_writeFault_66 rfl (by refine ⟨?_, ?_⟩ <;> simp_all [-Int32.not_lt, -Int32.not_le, ← Int32.not_lt, xT, xW, xK, xS, xF, xP, zb_0, zb_n, out_bey, s_wF])
        · skip
          refine zv_iconstv (v := 3) dX8_writeFault_43 (by decide) ?_
          refine zv_goto (tgt := 66) dX8_writeFault_44 (by decide) ?_
          exact zv_ireturn dX8_writeFault_66 rfl (by refine ⟨?_, ?_⟩ <;> simp_all [-Int32.not_lt, -Int32.not_le, ← Int32.not_lt, xT, xW, xK, xS, xF, xP, zb_0, zb_n, out_bey, s_wF])
      · skip
        refine zv_iconstv (v := 2) dX8_writeFault_21 (by decide) ?_
        refine zv_goto (tgt := 66) dX8_writeFault_22 (by decide) ?_
        exact zv_ireturn dX8_writeFault_66 rfl (by refine ⟨?_, ?_⟩ <;> simp_all [-Int32.not_lt, -Int32.not_le, ← Int32.not_lt, xT, xW, xK, xS, xF, xP, zb_0, zb_n, out_bey, s_wF])
  · skip
    refine zv_iconstv (v := 1) dX8_writeFault_4 (by decide) ?_
    refine zv_goto (tgt := 66) dX8_writeFault_5 (by decide) ?_
    exact zv_ireturn dX8_writeFault_66 rfl (by refine ⟨?_, ?_⟩ <;> simp_all [-Int32.not_lt, -Int32.not_le, ← Int32.not_lt, xT, xW, xK, xS, xF, xP, zb_0, zb_n, out_bey, s_wF])
set_option maxRecDepth 20000 in
set_option maxHeartbeats 4000000 in
theorem cM_unfit {G : zh_G} {l : Launch} {g : Nat → va_E} {nn : Nat} {σ : sg} (hn : zg_B G + 28 ≤ nn) {q : Int32} (hr : vp_in q 5000) (hw : σ.1 2 = 2 → vp_in (σ.1 5) 41) : zc G l yX8_unfit cX8_unfit 3 (some .boolean) 1 [.ref (zg_B G + 18), .int q] (ms G g σ, nn) 0 0 (fun o h' => o = some (.int (zb (s_unfit σ q))) ∧ h' = (ms G g σ, nn)) := by
  refine zc.of (by decide) (Nat.le_of_ble_eq_true rfl) ?_
  refine zv_aload_n dX8_unfit_0 rfl ?_
  refine zM_get hn zf_X8_20_6 rfl dX8_unfit_1 ?_
  refine zv_iload_n dX8_unfit_4 rfl ?_
  refine zM_ald9 hn (by first | with_reducible assumption | with_reducible exact hr | with_reducible exact hw (by assumption) | with_reducible exact hw (by simp_all)) dX8_unfit_5 ?_
  refine zv_istore_n dX8_unfit_6 (by decide) ?_
  refine zv_iload_n dX8_unfit_7 rfl ?_
  refine zv_bipushv (v := 8) dX8_unfit_8 (by decide) ?_
  refine zv_icmp_ge (tgt := 38) dX8_unfit_10 (by decide) (fun c10 => ?_) (fun c10 => ?_)
  · skip
    refine zv_aload_n dX8_unfit_38 rfl ?_
    refine zM_get hn zf_X8_69_6 rfl dX8_unfit_39 ?_
    refine zv_iconstv (v := 1) dX8_unfit_42 (by decide) ?_
    refine zv_icmp_eq (tgt := 92) dX8_unfit_43 (by decide) (fun c43 => ?_) (fun c43 => ?_)
    · skip
      refine zv_iconstv (v := 1) dX8_unfit_92 (by decide) ?_
      refine zv_goto (tgt := 97) dX8_unfit_93 (by decide) ?_
      exact zv_zreturn dX8_unfit_97 rfl (by decide) (by refine ⟨?_, ?_⟩ <;> simp_all [-Int32.not_lt, -Int32.not_le, ← Int32.not_lt, xT, xW, xK, xS, xF, xP, zb_0, zb_n, out_bey, s_unfit, zb])
    · skip
      refine zv_aload_n dX8_unfit_46 rfl ?_
      refine zM_get hn zf_X8_69_6 rfl dX8_unfit_47 ?_
      refine zv_iconstv (v := 2) dX8_unfit_50 (by decide) ?_
      refine zv_icmp_ne (tgt := 78) dX8_unfit_51 (by decide) (fun c51 => ?_) (fun c51 => ?_)
      · skip
        refine zv_aload_n dX8_unfit_78 rfl ?_
        refine zM_get hn zf_X8_69_6 rfl dX8_unfit_79 ?_
        refine zv_iconstv (v := 3) dX8_unfit_82 (by decide) ?_
        refine zv_icmp_ne (tgt := 96) dX8_unfit_83 (by decide) (fun c83 => ?_) (fun c83 => ?_)
        · skip
          refine zv_iconstv (v := 0) dX8_unfit_96 (by decide) ?_
          exact zv_zreturn dX8_unfit_97 rfl (by decide) (by refine ⟨?_, ?_⟩ <;> simp_all [-Int32.not_lt, -Int32.not_le, ← Int32.not_lt, xT, xW, xK, xS, xF, xP, zb_0, zb_n, out_bey, s_unfit, zb])
        · skip
          refine zv_iload_n dX8_unfit_86 rfl ?_
          refine zv_bipushv (v := 10) dX8_unfit_87 (by decide) ?_
          refine zv_icmp_eq (tgt := 96) dX8_unfit_89 (by decide) (fun c89 => ?_) (fun c89 => ?_)
          · skip
            refine zv_iconstv (v := 0) dX8_unfit_96 (by decide) ?_
            exact zv_zreturn dX8_unfit_97 rfl (by decide) (by refine ⟨?_, ?_⟩ <;> simp_all [-Int32.not_lt, -Int32.not_le, ← Int32.not_lt, xT, xW, xK, xS, xF, xP, zb_0, zb_n, out_bey, s_unfit, zb])
          · skip
            refine zv_iconstv (v := 1) dX8_unfit_92 (by decide) ?_
            refine zv_goto (tgt := 97) dX8_unfit_93 (by decide) ?_
            exact zv_zreturn dX8_unfit_97 rfl (by decide) (by refine ⟨?_, ?_⟩ <;> simp_all [-Int32.not_lt, -Int32.not_le, ← Int32.not_lt, xT, xW, xK, xS, xF, xP, zb_0, zb_n, out_bey, s_unfit, zb])
      · skip
        refine zv_iload_n dX8_unfit_54 rfl ?_
        refine zv_bipushv (v := 10) dX8_unfit_55 (by decide) ?_
        refine zv_icmp_eq (tgt := 92) dX8_unfit_57 (by decide) (fun c57 => ?_) (fun c57 => ?_)
        · skip
          refine zv_iconstv (v := 1) dX8_unfit_92 (by decide) ?_
          refine zv_goto (tgt := 97) dX8_unfit_93 (by decide) ?_
          exact zv_zreturn dX8_unfit_97 rfl (by decide) (by refine ⟨?_, ?_⟩ <;> simp_all [-Int32.not_lt, -Int32.not_le, ← Int32.not_lt, xT, xW, xK, xS, xF, xP, zb_0, zb_n, out_bey, s_unfit, zb])
        · skip
          refine zv_iload_n dX8_unfit_60 rfl ?_
          refine zv_bipushv (v := 9) dX8_unfit_61 (by decide) ?_
          refine zv_icmp_ne (tgt := 78) dX8_unfit_63 (by decide) (fun c63 => ?_) (fun c63 => ?_)
          · skip
            refine zv_aload_n dX8_unfit_78 rfl ?_
            refine zM_get hn zf_X8_69_6 rfl dX8_unfit_79 ?_
            refine zv_iconstv (v := 3) dX8_unfit_82 (by decide) ?_
            refine zv_icmp_ne (tgt := 96) dX8_unfit_83 (by decide) (fun c83 => ?_) (fun c83 => ?_)
            · skip
              refine zv_iconstv (v := 0) dX8_unfit_96 (by decide) ?_
              exact zv_zreturn dX8_unfit_97 rfl (by decide) (by refine ⟨?_, ?_⟩ <;> simp_all [-Int32.not_lt, -Int32.not_le, ← Int32.not_lt, xT, xW, xK, xS, xF, xP, zb_0, zb_n, out_bey, s_unfit, zb])
            · skip
              refine zv_iload_n dX8_unfit_86 rfl ?_
              refine zv_bipushv (v := 10) dX8_unfit_87 (by decide) ?_
              refine zv_icmp_eq (tgt := 96) dX8_unfit_89 (by decide) (fun c89 => ?_) (fun c89 => ?_)
              · skip
                refine zv_iconstv (v := 0) dX8_unfit_96 (by decide) ?_
                exact zv_zreturn dX8_unfit_97 rfl (by decide) (by refine ⟨?_, ?_⟩ <;> simp_all [-Int32.not_lt, -Int32.not_le, ← Int32.not_lt, xT, xW, xK, xS, xF, xP, zb_0, zb_n, out_bey, s_unfit, zb])
              · skip
                refine zv_iconstv (v := 1) dX8_unfit_92 (by decide) ?_
                refine zv_goto (tgt := 97) dX8_unfit_93 (by decide) ?_
                exact zv_zreturn dX8_unfit_97 rfl (by decide) (by refine ⟨?_, ?_⟩ <;> simp_all [-Int32.not_lt, -Int32.not_le, ← Int32.not_lt, xT, xW, xK, xS, xF, xP, zb_0, zb_n, out_bey, s_unfit, zb])
          · skip
            refine zv_aload_n dX8_unfit_66 rfl ?_
            refine zM_get hn zf_X8_16_6 rfl dX8_unfit_67 ?_
            refine zv_aload_n dX8_unfit_70 rfl ?_
            refine zM_get hn zf_X8_72_6 rfl dX8_unfit_71 ?_
            refine zM_ald7 hn (by first | with_reducible assumption | with_reducible exact hr | with_reducible exact hw (by assumption) | with_reducible exact hw (by simp_all)) dX8_unfit_74 ?_
            refine zv_if_eq (tgt := 92) dX8_unfit_75 (by decide) (fun c75 => ?_) (fun c75 => ?_)
            · skip
              refine zv_iconstv (v := 1) dX8_unfit_92 (by decide) ?_
              refine zv_goto (tgt := 97) dX8_unfit_93 (by decide) ?_
              exact zv_zreturn dX8_unfit_97 rfl (by decide) (by refine ⟨?_, ?_⟩ <;> simp_all [-Int32.not_lt, -Int32.not_le, ← Int32.not_lt, xT, xW, xK, xS, xF, xP, zb_0, zb_n, out_bey, s_unfit, zb])
            · skip
              refine zv_aload_n dX8_unfit_78 rfl ?_
              refine zM_get hn zf_X8_69_6 rfl dX8_unfit_79 ?_
              refine zv_iconstv (v := 3) dX8_unfit_82 (by decide) ?_
              refine zv_icmp_ne (tgt := 96) dX8_unfit_83 (by decide) (fun c83 => ?_) (fun c83 => ?_)
              · skip
                refine zv_iconstv (v := 0) dX8_unfit_96 (by decide) ?_
                exact zv_zreturn dX8_unfit_97 rfl (by decide) (by refine ⟨?_, ?_⟩ <;> simp_all [-Int32.not_lt, -Int32.not_le, ← Int32.not_lt, xT, xW, xK, xS, xF, xP, zb_0, zb_n, out_bey, s_unfit, zb])
              · skip
                refine zv_iload_n dX8_unfit_86 rfl ?_
                refine zv_bipushv (v := 10) dX8_unfit_87 (by decide) ?_
                refine zv_icmp_eq (tgt := 96) dX8_unfit_89 (by decide) (fun c89 => ?_) (fun c89 => ?_)
                · skip
                  refine zv_iconstv (v := 0) dX8_unfit_96 (by decide) ?_
                  exact zv_zreturn dX8_unfit_97 rfl (by decide) (by refine ⟨?_, ?_⟩ <;> simp_all [-Int32.not_lt, -Int32.not_le, ← Int32.not_lt, xT, xW, xK, xS, xF, xP, zb_0, zb_n, out_bey, s_unfit, zb])
                · skip
                  refine zv_iconstv (v := 1) dX8_unfit_92 (by decide) ?_
                  refine zv_goto (tgt := 97) dX8_unfit_93 (by decide) ?_
                  exact zv_zreturn dX8_unfit_97 rfl (by decide) (by refine ⟨?_, ?_⟩ <;> simp_all [-Int32.not_lt, -Int32.not_le, ← Int32.not_lt, xT, xW, xK, xS, xF, xP, zb_0, zb_n, out_bey, s_unfit, zb])
  · skip
    refine zv_aload_n dX8_unfit_13 rfl ?_
    refine zM_get hn zf_X8_69_6 rfl dX8_unfit_14 ?_
    refine zv_iconstv (v := 1) dX8_unfit_17 (by decide) ?_
    refine zv_icmp_ne (tgt := 32) dX8_unfit_18 (by decide) (fun c18 => ?_) (fun c18 => ?_)
    · skip
      refine zv_iconstv (v := 1) dX8_unfit_32 (by decide) ?_
      refine zv_goto (tgt := 37) dX8_unfit_33 (by decide) ?_
      exact zv_zreturn dX8_unfit_37 rfl (by decide) (by refine ⟨?_, ?_⟩ <;> simp_all [-Int32.not_lt, -Int32.not_le, ← Int32.not_lt, xT, xW, xK, xS, xF, xP, zb_0, zb_n, out_bey, s_unfit, zb])
    · skip
      refine zv_aload_n dX8_unfit_21 rfl ?_
      refine zM_get hn zf_X8_75_6 rfl dX8_unfit_22 ?_
      refine zv_iload_n dX8_unfit_25 rfl ?_
      refine zv_callSq (mc := 0) (ms := 0) zm_X8_100 zkyX8_goes cM_goes rfl rfl (Nat.le_of_ble_eq_true rfl) (by decide) dX8_unfit_26 ?_
      refine zv_if_ne (tgt := 36) dX8_unfit_29 (by decide) (fun c29 => ?_) (fun c29 => ?_)
      · skip
        refine zv_iconstv (v := 0) dX8_unfit_36 (by decide) ?_
        exact zv_zreturn dX8_unfit_37 rfl (by decide) (by refine ⟨?_, ?_⟩ <;> simp_all [-Int32.not_lt, -Int32.not_le, ← Int32.not_lt, xT, xW, xK, xS, xF, xP, zb_0, zb_n, out_bey, s_unfit, zb])
      · skip
        refine zv_iconstv (v := 1) dX8_unfit_32 (by decide) ?_
        refine zv_goto (tgt := 37) dX8_unfit_33 (by decide) ?_
        exact zv_zreturn dX8_unfit_37 rfl (by decide) (by refine ⟨?_, ?_⟩ <;> simp_all [-Int32.not_lt, -Int32.not_le, ← Int32.not_lt, xT, xW, xK, xS, xF, xP, zb_0, zb_n, out_bey, s_unfit, zb])
set_option maxRecDepth 20000 in
set_option maxHeartbeats 4000000 in
theorem cM_sizeFault {G : zh_G} {l : Launch} {g : Nat → va_E} {nn : Nat} {σ : sg} (hn : zg_B G + 28 ≤ nn) {r : Int32} (hr : vp_in r 10) : zc G l yX8_sizeFault cX8_sizeFault 2 (some .int) 0 [.ref (zg_B G + 18), .int r] (ms G g σ, nn) 0 0 (fun o h' => o = some (.int (s_szF σ r)) ∧ h' = (ms G g σ, nn)) := by
  refine zc.of (by decide) (Nat.le_of_ble_eq_true rfl) ?_
  refine zv_aload_n dX8_sizeFault_0 rfl ?_
  refine zM_get hn zf_X8_7_6 rfl dX8_sizeFault_1 ?_
  refine zv_iload_n dX8_sizeFault_4 rfl ?_
  refine zM_ald0 hn (by first | with_reducible assumption | with_reducible exact hr | with_reducible exact rk_i (hq (by assumption)) | with_reducible exact rk_i (hq (by simp_all)) | with_reducible exact rk_p (hq (by simp_all)) _ (by simp_all)) dX8_sizeFault_5 ?_
  refine zv_if_ne (tgt := 13) dX8_sizeFault_6 (by decide) (fun c6 => ?_) (fun c6 => ?_)
  · skip
    refine zv_aload_n dX8_sizeFault_13 rfl ?_
    refine zM_get hn zf_X8_7_6 rfl dX8_sizeFault_14 ?_
    refine zv_iload_n dX8_sizeFault_17 rfl ?_
    refine zM_ald0 hn (by first | with_reducible assumption | with_reducible exact hr | with_reducible exact rk_i (hq (by assumption)) | with_reducible exact rk_i (hq (by simp_all)) | with_reducible exact rk_p (hq (by simp_all)) _ (by simp_all)) dX8_sizeFault_18 ?_
    refine zv_iconstv (v := 3) dX8_sizeFault_19 (by decide) ?_
    refine zv_icmp_eq (tgt := 27) dX8_sizeFault_20 (by decide) (fun c20 => ?_) (fun c20 => ?_)
    · skip
      refine zv_iconstv (v := 0) dX8_sizeFault_27 (by decide) ?_
      exact zv_ireturn dX8_sizeFault_28 rfl (by refine ⟨?_, ?_⟩ <;> simp_all [-Int32.not_lt, -Int32.not_le, ← Int32.not_lt, xT, xW, xK, xS, xF, xP, zb_0, zb_n, out_bey, s_szF])
    · skip
      refine zv_iconstv (v := 2) dX8_sizeFault_23 (by decide) ?_
      refine zv_goto (tgt := 28) dX8_sizeFault_24 (by decide) ?_
      exact zv_ireturn dX8_sizeFault_28 rfl (by refine ⟨?_, ?_⟩ <;> simp_all [-Int32.not_lt, -Int32.not_le, ← Int32.not_lt, xT, xW, xK, xS, xF, xP, zb_0, zb_n, out_bey, s_szF])
  · skip
    refine zv_iconstv (v := 1) dX8_sizeFault_9 (by decide) ?_
    refine zv_goto (tgt := 28) dX8_sizeFault_10 (by decide) ?_
    exact zv_ireturn dX8_sizeFault_28 rfl (by refine ⟨?_, ?_⟩ <;> simp_all [-Int32.not_lt, -Int32.not_le, ← Int32.not_lt, xT, xW, xK, xS, xF, xP, zb_0, zb_n, out_bey, s_szF])
set_option maxRecDepth 20000 in
set_option maxHeartbeats 4000000 in
theorem cM_setFault {G : zh_G} {l : Launch} {g : Nat → va_E} {nn : Nat} {σ : sg} (hn : zg_B G + 28 ≤ nn) {r i : Int32} (hr : vp_in r 10) (hq : xT σ r = 3 → rk σ (xW σ r)) (hw : σ.1 2 = 2 → vp_in (σ.1 5) 41) : zc G l yX8_setFault cX8_setFault 4 (some .int) 2 [.ref (zg_B G + 18), .int r, .int i] (ms G g σ, nn) 0 0 (fun o h' => o = some (.int (s_sF σ r i)) ∧ h' = (ms G g σ, nn)) := by
  refine zc.of (by decide) (Nat.le_of_ble_eq_true rfl) ?_
  refine zv_aload_n dX8_setFault_0 rfl ?_
  refine zM_get hn zf_X8_13_6 rfl dX8_setFault_1 ?_
  refine zv_iload_n dX8_setFault_4 rfl ?_
  refine zM_ald1 hn (by first | with_reducible assumption | with_reducible exact hr | with_reducible exact rk_i (hq (by assumption)) | with_reducible exact rk_i (hq (by simp_all)) | with_reducible exact rk_p (hq (by simp_all)) _ (by simp_all)) dX8_setFault_5 ?_
  refine zv_istore_n dX8_setFault_6 (by decide) ?_
  refine zv_aload_n dX8_setFault_7 rfl ?_
  refine zM_get hn zf_X8_7_6 rfl dX8_setFault_8 ?_
  refine zv_iload_n dX8_setFault_11 rfl ?_
  refine zM_ald0 hn (by first | with_reducible assumption | with_reducible exact hr | with_reducible exact rk_i (hq (by assumption)) | with_reducible exact rk_i (hq (by simp_all)) | with_reducible exact rk_p (hq (by simp_all)) _ (by simp_all)) dX8_setFault_12 ?_
  refine zv_iconstv (v := 3) dX8_setFault_13 (by decide) ?_
  refine zv_icmp_eq (tgt := 32) dX8_setFault_14 (by decide) (fun c14 => ?_) (fun c14 => ?_)
  · skip
    refine zv_aload_n dX8_setFault_32 rfl ?_
    refine zv_iload_n dX8_setFault_33 rfl ?_
    refine zM_call hn zm_X8_97 zkyX8_isNumbers rfl (cM_isNumbers hn (rk_i (hq (by simp_all)))) rfl rfl (Nat.le_of_ble_eq_true rfl) (by decide) dX8_setFault_34 ?_
    refine zv_if_eq (tgt := 51) dX8_setFault_37 (by decide) (fun c37 => ?_) (fun c37 => ?_)
    · skip
      refine zv_iload_n dX8_setFault_51 rfl ?_
      refine zv_i2l dX8_setFault_52 ?_
      refine zv_lconstv (v := 0) dX8_setFault_53 (by decide) ?_
      refine zv_aload_n dX8_setFault_54 rfl ?_
      refine zM_get hn zf_X8_23_6 rfl dX8_setFault_55 ?_
      refine zv_iload_n dX8_setFault_58 rfl ?_
      refine zM_ald10 hn (by first | with_reducible assumption | with_reducible exact hr | with_reducible exact rk_i (hq (by assumption)) | with_reducible exact rk_i (hq (by simp_all)) | with_reducible exact rk_p (hq (by simp_all)) _ (by simp_all)) dX8_setFault_59 ?_
      refine zv_iconstv (v := 1) dX8_setFault_60 (by decide) ?_
      refine zv_isub dX8_setFault_61 ?_
      refine zv_i2l dX8_setFault_62 ?_
      refine zv_callSq (mc := 0) (ms := 0) zm_X8_42 zkyX8_beyond cM_beyond rfl rfl (Nat.le_of_ble_eq_true rfl) (by decide) dX8_setFault_63 ?_
      refine zv_if_eq (tgt := 73) dX8_setFault_66 (by decide) (fun c66 => ?_) (fun c66 => ?_)
      · skip
        refine zv_aload_n dX8_setFault_73 rfl ?_
        refine zv_iload_n dX8_setFault_74 rfl ?_
        refine zM_call hn zm_X8_104 zkyX8_unfit rfl (cM_unfit hn (rk_i (hq (by simp_all))) hw) rfl rfl (Nat.le_of_ble_eq_true rfl) (by decide) dX8_setFault_75 ?_
        refine zv_if_eq (tgt := 85) dX8_setFault_78 (by decide) (fun c78 => ?_) (fun c78 => ?_)
        · skip
          refine zv_iconstv (v := 0) dX8_setFault_85 (by decide) ?_
          exact zv_ireturn dX8_setFault_86 rfl (by refine ⟨?_, ?_⟩ <;> simp_all [-Int32.not_lt, -Int32.not_le, ← Int32.not_lt, xT, xW, xK, xS, xF, xP, zb_0, zb_n, out_bey, s_sF])
        · skip
          refine zv_iconstv (v := 2) dX8_setFault_81 (by decide) ?_
          refine zv_goto (tgt := 86) dX8_setFault_82 (by decide) ?_
          exact zv_ireturn dX8_setFault_86 rfl (by refine ⟨?_, ?_⟩ <;> simp_all [-Int32.not_lt, -Int32.not_le, ← Int32.not_lt, xT, xW, xK, xS, xF, xP, zb_0, zb_n, out_bey, s_sF])
      · skip
        refine zv_iconstv (v := 3) dX8_setFault_69 (by decide) ?_
        refine zv_goto (tgt := 86) dX8_setFault_70 (by decide) ?_
        exact zv_ireturn dX8_setFault_86 rfl (by refine ⟨?_, ?_⟩ <;> simp_all [-Int32.not_lt, -Int32.not_le, ← Int32.not_lt, xT, xW, xK, xS, xF, xP, zb_0, zb_n, out_bey, s_sF])
    · skip
      refine zv_aload_n dX8_setFault_40 rfl ?_
      refine zM_get hn zf_X8_69_6 rfl dX8_setFault_41 ?_
      refine zv_if_ne (tgt := 51) dX8_setFault_44 (by decide) (fun c44 => ?_) (fun c44 => ?_)
      · skip
        refine zv_iload_n dX8_setFault_51 rfl ?_
        refine zv_i2l dX8_setFault_52 ?_
        refine zv_lconstv (v := 0) dX8_setFault_53 (by decide) ?_
        refine zv_aload_n dX8_setFault_54 rfl ?_
        refine zM_get hn zf_X8_23_6 rfl dX8_setFault_55 ?_
        refine zv_iload_n dX8_setFault_58 rfl ?_
        refine zM_ald10 hn (by first | with_reducible assumption | with_reducible exact hr | with_reducible exact rk_i (hq (by assumption)) | with_reducible exact rk_i (hq (by simp_all)) | with_reducible exact rk_p (hq (by simp_all)) _ (by simp_all)) dX8_setFault_59 ?_
        refine zv_iconstv (v := 1) dX8_setFault_60 (by decide) ?_
        refine zv_isub dX8_setFault_61 ?_
        refine zv_i2l dX8_setFault_62 ?_
        refine zv_callSq (mc := 0) (ms := 0) zm_X8_42 zkyX8_beyond cM_beyond rfl rfl (Nat.le_of_ble_eq_true rfl) (by decide) dX8_setFault_63 ?_
        refine zv_if_eq (tgt := 73) dX8_setFault_66 (by decide) (fun c66 => ?_) (fun c66 => ?_)
        · skip
          refine zv_aload_n dX8_setFault_73 rfl ?_
          refine zv_iload_n dX8_setFault_74 rfl ?_
          refine zM_call hn zm_X8_104 zkyX8_unfit rfl (cM_unfit hn (rk_i (hq (by simp_all))) hw) rfl rfl (Nat.le_of_ble_eq_true rfl) (by decide) dX8_setFault_75 ?_
          refine zv_if_eq (tgt := 85) dX8_setFault_78 (by decide) (fun c78 => ?_) (fun c78 => ?_)
          · skip
            refine zv_iconstv (v := 0) dX8_setFault_85 (by decide) ?_
            exact zv_ireturn dX8_setFault_86 rfl (by refine ⟨?_, ?_⟩ <;> simp_all [-Int32.not_lt, -Int32.not_le, ← Int32.not_lt, xT, xW, xK, xS, xF, xP, zb_0, zb_n, out_bey, s_sF])
          · skip
            refine zv_iconstv (v := 2) dX8_setFault_81 (by decide) ?_
            refine zv_goto (tgt := 86) dX8_setFault_82 (by decide) ?_
            exact zv_ireturn dX8_setFault_86 rfl (by refine ⟨?_, ?_⟩ <;> simp_all [-Int32.not_lt, -Int32.not_le, ← Int32.not_lt, xT, xW, xK, xS, xF, xP, zb_0, zb_n, out_bey, s_sF])
        · skip
          refine zv_iconstv (v := 3) dX8_setFault_69 (by decide) ?_
          refine zv_goto (tgt := 86) dX8_setFault_70 (by decide) ?_
          exact zv_ireturn dX8_setFault_86 rfl (by refine ⟨?_, ?_⟩ <;> simp_all [-Int32.not_lt, -Int32.not_le, ← Int32.not_lt, xT, xW, xK, xS, xF, xP, zb_0, zb_n, out_bey, s_sF])
      · skip
        refine zv_iconstv (v := 2) dX8_setFault_47 (by decide) ?_
        refine zv_goto (tgt := 86) dX8_setFault_48 (by decide) ?_
        exact zv_ireturn dX8_setFault_86 rfl (by refine ⟨?_, ?_⟩ <;> simp_all [-Int32.not_lt, -Int32.not_le, ← Int32.not_lt, xT, xW, xK, xS, xF, xP, zb_0, zb_n, out_bey, s_sF])
  · skip
    refine zv_aload_n dX8_setFault_17 rfl ?_
    refine zM_get hn zf_X8_7_6 rfl dX8_setFault_18 ?_
    refine zv_iload_n dX8_setFault_21 rfl ?_
    refine zM_ald0 hn (by first | with_reducible assumption | with_reducible exact hr | with_reducible exact rk_i (hq (by assumption)) | with_reducible exact rk_i (hq (by simp_all)) | with_reducible exact rk_p (hq (by simp_all)) _ (by simp_all)) dX8_setFault_22 ?_
    refine zv_if_ne (tgt := 30) dX8_setFault_23 (by decide) (fun c23 => ?_) (fun c23 => ?_)
    · skip
      refine zv_iconstv (v := 2) dX8_setFault_30 (by decide) ?_
      exact zv_ireturn dX8_setFault_31 rfl (by refine ⟨?_, ?_⟩ <;> simp_all [-Int32.not_lt, -Int32.not_le, ← Int32.not_lt, xT, xW, xK, xS, xF, xP, zb_0, zb_n, out_bey, s_sF])
    · skip
      refine zv_iconstv (v := 1) dX8_setFault_26 (by decide) ?_
      refine zv_goto (tgt := 31) dX8_setFault_27 (by decide) ?_
      exact zv_ireturn dX8_setFault_31 rfl (by refine ⟨?_, ?_⟩ <;> simp_all [-Int32.not_lt, -Int32.not_le, ← Int32.not_lt, xT, xW, xK, xS, xF, xP, zb_0, zb_n, out_bey, s_sF])
set_option maxRecDepth 20000 in
set_option maxHeartbeats 4000000 in
theorem cM_gets {G : zh_G} {l : Launch} {g : Nat → va_E} {nn : Nat} {σ : sg} (hn : zg_B G + 28 ≤ nn) {q i : Int32} (hq : rk σ q) (hi : s_out i (xS σ q) = false) : zc G l yX8_gets cX8_gets 6 none 1 [.ref (zg_B G + 18), .int q, .int i] (ms G g σ, nn) 0 0 (fun o h' => o = none ∧ h' = (ms G g (s_gets σ q i), nn)) := by
  refine zc.of (by decide) (Nat.le_of_ble_eq_true rfl) ?_
  refine zv_aload_n dX8_gets_0 rfl ?_
  refine zM_get hn zf_X8_27_6 rfl dX8_gets_1 ?_
  refine zv_bipushv (v := 16) dX8_gets_4 (by decide) ?_
  refine zv_iload_n dX8_gets_6 rfl ?_
  refine zv_imul dX8_gets_7 ?_
  refine zv_iload_n dX8_gets_8 rfl ?_
  refine zv_iadd dX8_gets_9 ?_
  refine zM_ald11 hn (by first | with_reducible exact rk_i hq | with_reducible exact rk_p hq _ hi) dX8_gets_10 ?_
  refine zv_lstore_n dX8_gets_11 (by decide) ?_
  refine zv_aload_n dX8_gets_12 rfl ?_
  refine zM_get hn zf_X8_20_6 rfl dX8_gets_13 ?_
  refine zv_iload_n dX8_gets_16 rfl ?_
  refine zM_ald9 hn (by first | with_reducible exact rk_i hq | with_reducible exact rk_p hq _ hi) dX8_gets_17 ?_
  refine zv_istore dX8_gets_18 (by decide) ?_
  refine zv_iload dX8_gets_20 rfl ?_
  refine zv_bipushv (v := 8) dX8_gets_22 (by decide) ?_
  refine zv_icmp_ge (tgt := 37) dX8_gets_24 (by decide) (fun c24 => ?_) (fun c24 => ?_)
  · skip
    refine zv_aload_n dX8_gets_37 rfl ?_
    refine zv_lload_n dX8_gets_38 rfl ?_
    refine zv_lconstv (v := 0) dX8_gets_39 (by decide) ?_
    refine zv_lcmp dX8_gets_40 ?_
    refine zv_if_ne (tgt := 48) dX8_gets_41 (by decide) (fun c41 => ?_) (fun c41 => ?_)
    · skip
      refine zv_iload dX8_gets_48 rfl ?_
      refine zv_bipushv (v := 10) dX8_gets_50 (by decide) ?_
      refine zv_icmp_ne (tgt := 59) dX8_gets_52 (by decide) (fun c52 => ?_) (fun c52 => ?_)
      · skip
        refine zv_iconstv (v := 2) dX8_gets_59 (by decide) ?_
        refine zM_put2 hn zfw_X8_69_6 dX8_gets_60 ?_
        refine zv_aload_n dX8_gets_63 rfl ?_
        refine zv_iload dX8_gets_64 rfl ?_
        refine zv_bipushv (v := 10) dX8_gets_66 (by decide) ?_
        refine zv_icmp_ne (tgt := 77) dX8_gets_68 (by decide) (fun c68 => ?_) (fun c68 => ?_)
        · skip
          refine zv_lload_n dX8_gets_77 rfl ?_
          refine zv_l2i dX8_gets_78 ?_
          refine zM_put5 hn zfw_X8_72_6 dX8_gets_79 ?_
          exact zv_return dX8_gets_82 rfl (by refine ⟨?_, ?_⟩ <;> simp_all [-Int32.not_lt, -Int32.not_le, ← Int32.not_lt, xT, xW, xK, xS, xF, xP, zb_0, zb_n, out_bey, s_gets, cmp_eq])
        · skip
          refine zv_lload_n dX8_gets_71 rfl ?_
          refine zv_lconstv (v := 1) dX8_gets_72 (by decide) ?_
          refine zv_lsub dX8_gets_73 ?_
          refine zv_goto (tgt := 78) dX8_gets_74 (by decide) ?_
          refine zv_l2i dX8_gets_78 ?_
          refine zM_put5 hn zfw_X8_72_6 dX8_gets_79 ?_
          exact zv_return dX8_gets_82 rfl (by refine ⟨?_, ?_⟩ <;> simp_all [-Int32.not_lt, -Int32.not_le, ← Int32.not_lt, xT, xW, xK, xS, xF, xP, zb_0, zb_n, out_bey, s_gets, cmp_eq])
      · skip
        refine zv_iconstv (v := 3) dX8_gets_55 (by decide) ?_
        refine zv_goto (tgt := 60) dX8_gets_56 (by decide) ?_
        refine zM_put2 hn zfw_X8_69_6 dX8_gets_60 ?_
        refine zv_aload_n dX8_gets_63 rfl ?_
        refine zv_iload dX8_gets_64 rfl ?_
        refine zv_bipushv (v := 10) dX8_gets_66 (by decide) ?_
        refine zv_icmp_ne (tgt := 77) dX8_gets_68 (by decide) (fun c68 => ?_) (fun c68 => ?_)
        · skip
          refine zv_lload_n dX8_gets_77 rfl ?_
          refine zv_l2i dX8_gets_78 ?_
          refine zM_put5 hn zfw_X8_72_6 dX8_gets_79 ?_
          exact zv_return dX8_gets_82 rfl (by refine ⟨?_, ?_⟩ <;> simp_all [-Int32.not_lt, -Int32.not_le, ← Int32.not_lt, xT, xW, xK, xS, xF, xP, zb_0, zb_n, out_bey, s_gets, cmp_eq])
        · skip
          refine zv_lload_n dX8_gets_71 rfl ?_
          refine zv_lconstv (v := 1) dX8_gets_72 (by decide) ?_
          refine zv_lsub dX8_gets_73 ?_
          refine zv_goto (tgt := 78) dX8_gets_74 (by decide) ?_
          refine zv_l2i dX8_gets_78 ?_
          refine zM_put5 hn zfw_X8_72_6 dX8_gets_79 ?_
          exact zv_return dX8_gets_82 rfl (by refine ⟨?_, ?_⟩ <;> simp_all [-Int32.not_lt, -Int32.not_le, ← Int32.not_lt, xT, xW, xK, xS, xF, xP, zb_0, zb_n, out_bey, s_gets, cmp_eq])
    · skip
      refine zv_iconstv (v := 0) dX8_gets_44 (by decide) ?_
      refine zv_goto (tgt := 60) dX8_gets_45 (by decide) ?_
      refine zM_put2 hn zfw_X8_69_6 dX8_gets_60 ?_
      refine zv_aload_n dX8_gets_63 rfl ?_
      refine zv_iload dX8_gets_64 rfl ?_
      refine zv_bipushv (v := 10) dX8_gets_66 (by decide) ?_
      refine zv_icmp_ne (tgt := 77) dX8_gets_68 (by decide) (fun c68 => ?_) (fun c68 => ?_)
      · skip
        refine zv_lload_n dX8_gets_77 rfl ?_
        refine zv_l2i dX8_gets_78 ?_
        refine zM_put5 hn zfw_X8_72_6 dX8_gets_79 ?_
        exact zv_return dX8_gets_82 rfl (by refine ⟨?_, ?_⟩ <;> simp_all [-Int32.not_lt, -Int32.not_le, ← Int32.not_lt, xT, xW, xK, xS, xF, xP, zb_0, zb_n, out_bey, s_gets, cmp_eq])
      · skip
        refine zv_lload_n dX8_gets_71 rfl ?_
        refine zv_lconstv (v := 1) dX8_gets_72 (by decide) ?_
        refine zv_lsub dX8_gets_73 ?_
        refine zv_goto (tgt := 78) dX8_gets_74 (by decide) ?_
        refine zv_l2i dX8_gets_78 ?_
        refine zM_put5 hn zfw_X8_72_6 dX8_gets_79 ?_
        exact zv_return dX8_gets_82 rfl (by refine ⟨?_, ?_⟩ <;> simp_all [-Int32.not_lt, -Int32.not_le, ← Int32.not_lt, xT, xW, xK, xS, xF, xP, zb_0, zb_n, out_bey, s_gets, cmp_eq])
  · skip
    refine zv_aload_n dX8_gets_27 rfl ?_
    refine zv_iload dX8_gets_28 rfl ?_
    refine zv_lload_n dX8_gets_30 rfl ?_
    refine zM_call hn zm_X8_88 zkyX8_hold rfl (cM_hold hn) rfl rfl (Nat.le_of_ble_eq_true rfl) (by decide) dX8_gets_31 ?_
    refine zv_goto (tgt := 82) dX8_gets_34 (by decide) ?_
    exact zv_return dX8_gets_82 rfl (by refine ⟨?_, ?_⟩ <;> simp_all [-Int32.not_lt, -Int32.not_le, ← Int32.not_lt, xT, xW, xK, xS, xF, xP, zb_0, zb_n, out_bey, s_gets, cmp_eq])
end
section
theorem gF_out {σ : sg} {t q i : Int32} (h : s_gF σ t q i = 0) : t = 3 ∧ s_out i (xS σ q) = false := by
  unfold s_gF at h
  by_cases h1 : t = 0
  · rw [if_pos h1] at h; exact absurd h (by decide)
  · rw [if_neg h1] at h
    by_cases h2 : t = 3
    · rw [if_neg (fun q => q h2)] at h
      by_cases h3 : s_out i (xS σ q) = true
      · rw [if_pos h3] at h; exact absurd h (by decide)
      · exact ⟨h2, by simpa using h3⟩
    · rw [if_pos h2] at h; exact absurd h (by decide)
theorem rF_out {σ : sg} {t q i to : Int32} (h : s_rF σ t q i to = 0) : t = 3 ∧ xK σ q < 8 ∧ s_out i (xS σ q) = false ∧ s_goes (xK σ q) to = true := by
  unfold s_rF at h
  by_cases h1 : t = 0
  · rw [if_pos h1] at h; exact absurd h (by decide)
  · rw [if_neg h1] at h
    by_cases h2 : t = 3
    · rw [if_neg (fun q => q h2)] at h
      by_cases h4 : xK σ q < 8
      · rw [if_neg (fun q => q h4)] at h
        by_cases h3 : s_out i (xS σ q) = true
        · rw [if_pos h3] at h; exact absurd h (by decide)
        · rw [if_neg h3] at h
          by_cases h5 : s_goes (xK σ q) to = true
          · exact ⟨h2, h4, by simpa using h3, h5⟩
          · rw [if_neg h5] at h; exact absurd h (by decide)
      · rw [if_pos h4] at h; exact absurd h (by decide)
    · rw [if_pos h2] at h; exact absurd h (by decide)
theorem wF_out {σ : sg} {t q i to : Int32} (h : s_wF σ t q i to = 0) : t = 3 ∧ xK σ q < 8 ∧ s_out i (xS σ q) = false ∧ s_goes to (xK σ q) = true := by
  unfold s_wF at h
  by_cases h1 : t = 0
  · rw [if_pos h1] at h; exact absurd h (by decide)
  · rw [if_neg h1] at h
    by_cases h2 : t = 3
    · rw [if_neg (fun q => q h2)] at h
      by_cases h4 : xK σ q < 8
      · rw [if_neg (fun q => q h4)] at h
        by_cases h3 : s_out i (xS σ q) = true
        · rw [if_pos h3] at h; exact absurd h (by decide)
        · rw [if_neg h3] at h
          by_cases h5 : s_goes to (xK σ q) = true
          · exact ⟨h2, h4, by simpa using h3, h5⟩
          · rw [if_neg h5] at h; exact absurd h (by decide)
      · rw [if_pos h4] at h; exact absurd h (by decide)
    · rw [if_pos h2] at h; exact absurd h (by decide)
theorem sF_out {σ : sg} {r i : Int32} (h : s_sF σ r i = 0) : xT σ r = 3 ∧ s_out i (xS σ (xW σ r)) = false ∧ ¬ (xK σ (xW σ r) < 8 ∧ σ.1 2 = 0) ∧ s_unfit σ (xW σ r) = false := by
  unfold s_sF at h
  by_cases h2 : xT σ r = 3
  · rw [if_neg (fun q => q h2)] at h
    by_cases h4 : xK σ (xW σ r) < 8 ∧ σ.1 2 = 0
    · rw [if_pos h4] at h; exact absurd h (by decide)
    · rw [if_neg h4] at h
      by_cases h3 : s_out i (xS σ (xW σ r)) = true
      · rw [if_pos h3] at h; exact absurd h (by decide)
      · rw [if_neg h3] at h
        by_cases h5 : s_unfit σ (xW σ r) = true
        · rw [if_pos h5] at h; exact absurd h (by decide)
        · exact ⟨h2, by simpa using h3, h4, by simpa using h5⟩
  · rw [if_pos h2] at h
    by_cases h1 : xT σ r = 0
    · rw [if_pos h1] at h; exact absurd h (by decide)
    · rw [if_neg h1] at h; exact absurd h (by decide)
theorem szF_3 {σ : sg} {r : Int32} (h : s_szF σ r ≤ 0) : xT σ r = 3 := by
  unfold s_szF at h
  by_cases h1 : xT σ r = 0
  · rw [if_pos h1] at h; exact absurd h (by decide)
  · rw [if_neg h1] at h
    by_cases h2 : xT σ r = 3
    · exact h2
    · rw [if_pos h2] at h; exact absurd h (by decide)
set_option maxRecDepth 20000 in
set_option maxHeartbeats 4000000 in
theorem cM_doGet {G : zh_G} {l : Launch} {g : Nat → va_E} {nn : Nat} {σ : sg} (hn : zg_B G + 28 ≤ nn) {r i : Int32} (hr : vp_in r 10) (hq : xT σ r = 3 → rk σ (xW σ r)) : zc G l yX8_doGet cX8_doGet 4 (some .int) 2 [.ref (zg_B G + 18), .int r, .int i] (ms G g σ, nn) 0 0 (fun o h' => o = some (.int (s_gF σ (xT σ r) (xW σ r) i)) ∧ h' = (ms G g (s_getS σ r i), nn)) := by
  refine zc.of (by decide) (Nat.le_of_ble_eq_true rfl) ?_
  refine zv_aload_n dX8_doGet_0 rfl ?_
  refine zv_aload_n dX8_doGet_1 rfl ?_
  refine zM_get hn zf_X8_7_6 rfl dX8_doGet_2 ?_
  refine zv_iload_n dX8_doGet_5 rfl ?_
  refine zM_ald0 hn (by first | with_reducible assumption | with_reducible exact hr | with_reducible exact rk_i (hq (by assumption)) | with_reducible exact rk_i (hq (by simp_all)) | with_reducible exact rk_p (hq (by simp_all)) _ (by simp_all)) dX8_doGet_6 ?_
  refine zv_aload_n dX8_doGet_7 rfl ?_
  refine zM_get hn zf_X8_13_6 rfl dX8_doGet_8 ?_
  refine zv_iload_n dX8_doGet_11 rfl ?_
  refine zM_ald1 hn (by first | with_reducible assumption | with_reducible exact hr | with_reducible exact rk_i (hq (by assumption)) | with_reducible exact rk_i (hq (by simp_all)) | with_reducible exact rk_p (hq (by simp_all)) _ (by simp_all)) dX8_doGet_12 ?_
  refine zv_iload_n dX8_doGet_13 rfl ?_
  refine zM_call hn zm_X8_107 zkyX8_getFault rfl (cM_getFault hn hq) rfl rfl (Nat.le_of_ble_eq_true rfl) (by decide) dX8_doGet_14 ?_
  refine zv_istore_n dX8_doGet_17 (by decide) ?_
  refine zv_iload_n dX8_doGet_18 rfl ?_
  refine zv_if_ne (tgt := 33) dX8_doGet_19 (by decide) (fun c19 => ?_) (fun c19 => ?_)
  · skip
    refine zv_iload_n dX8_doGet_33 rfl ?_
    exact zv_ireturn dX8_doGet_34 rfl (by refine ⟨?_, ?_⟩ <;> simp_all [-Int32.not_lt, -Int32.not_le, ← Int32.not_lt, xT, xW, xK, xS, xF, xP, zb_0, zb_n, out_bey, s_getS])
  · skip
    refine zv_aload_n dX8_doGet_22 rfl ?_
    refine zv_aload_n dX8_doGet_23 rfl ?_
    refine zM_get hn zf_X8_13_6 rfl dX8_doGet_24 ?_
    refine zv_iload_n dX8_doGet_27 rfl ?_
    refine zM_ald1 hn (by first | with_reducible assumption | with_reducible exact hr | with_reducible exact rk_i (hq (by assumption)) | with_reducible exact rk_i (hq (by simp_all)) | with_reducible exact rk_p (hq (by simp_all)) _ (by simp_all)) dX8_doGet_28 ?_
    refine zv_iload_n dX8_doGet_29 rfl ?_
    refine zM_call hn zm_X8_111 zkyX8_gets rfl (cM_gets hn (hq (gF_out (by assumption)).1) (gF_out (by assumption)).2) rfl rfl (Nat.le_of_ble_eq_true rfl) (by decide) dX8_doGet_30 ?_
    refine zv_iload_n dX8_doGet_33 rfl ?_
    exact zv_ireturn dX8_doGet_34 rfl (by refine ⟨?_, ?_⟩ <;> simp_all [-Int32.not_lt, -Int32.not_le, ← Int32.not_lt, xT, xW, xK, xS, xF, xP, zb_0, zb_n, out_bey, s_getS])
set_option maxRecDepth 20000 in
set_option maxHeartbeats 4000000 in
theorem cM_doSet {G : zh_G} {l : Launch} {g : Nat → va_E} {nn : Nat} {σ : sg} (hn : zg_B G + 28 ≤ nn) {r i : Int32} (hr : vp_in r 10) (hq : xT σ r = 3 → rk σ (xW σ r)) (hw : σ.1 2 = 2 → vp_in (σ.1 5) 41) : zc G l yX8_doSet cX8_doSet 5 (some .int) 3 [.ref (zg_B G + 18), .int r, .int i] (ms G g σ, nn) 0 0 (fun o h' => o = some (.int (s_sF σ r i)) ∧ h' = (ms G g (s_setS σ r i), nn)) := by
  refine zc.of (by decide) (Nat.le_of_ble_eq_true rfl) ?_
  refine zv_aload_n dX8_doSet_0 rfl ?_
  refine zv_iload_n dX8_doSet_1 rfl ?_
  refine zv_iload_n dX8_doSet_2 rfl ?_
  refine zM_call hn zm_X8_124 zkyX8_setFault rfl (cM_setFault hn hr hq hw) rfl rfl (Nat.le_of_ble_eq_true rfl) (by decide) dX8_doSet_3 ?_
  refine zv_istore_n dX8_doSet_6 (by decide) ?_
  refine zv_iload_n dX8_doSet_7 rfl ?_
  refine zv_if_ne (tgt := 90) dX8_doSet_8 (by decide) (fun c8 => ?_) (fun c8 => ?_)
  · skip
    refine zv_iload_n dX8_doSet_90 rfl ?_
    exact zv_ireturn dX8_doSet_91 rfl (by refine ⟨?_, ?_⟩ <;> simp_all [-Int32.not_lt, -Int32.not_le, ← Int32.not_lt, xT, xW, xK, xS, xF, xP, zb_0, zb_n, out_bey, s_setS, s_setV])
  · skip
    refine zv_aload_n dX8_doSet_11 rfl ?_
    refine zM_get hn zf_X8_13_6 rfl dX8_doSet_12 ?_
    refine zv_iload_n dX8_doSet_15 rfl ?_
    refine zM_ald1 hn (by first | with_reducible exact hr | with_reducible exact rk_p (hq (sF_out (by assumption)).1) _ (sF_out (by assumption)).2.1 | with_reducible exact rk_i (hq (sF_out (by assumption)).1)) dX8_doSet_16 ?_
    refine zv_istore dX8_doSet_17 (by decide) ?_
    refine zv_aload_n dX8_doSet_19 rfl ?_
    refine zM_get hn zf_X8_27_6 rfl dX8_doSet_20 ?_
    refine zv_bipushv (v := 16) dX8_doSet_23 (by decide) ?_
    refine zv_iload dX8_doSet_25 rfl ?_
    refine zv_imul dX8_doSet_27 ?_
    refine zv_iload_n dX8_doSet_28 rfl ?_
    refine zv_iadd dX8_doSet_29 ?_
    refine zv_aload_n dX8_doSet_30 rfl ?_
    refine zM_get hn zf_X8_69_6 rfl dX8_doSet_31 ?_
    refine zv_if_ne (tgt := 41) dX8_doSet_34 (by decide) (fun c34 => ?_) (fun c34 => ?_)
    · skip
      refine zv_aload_n dX8_doSet_41 rfl ?_
      refine zM_get hn zf_X8_69_6 rfl dX8_doSet_42 ?_
      refine zv_iconstv (v := 1) dX8_doSet_45 (by decide) ?_
      refine zv_icmp_ne (tgt := 66) dX8_doSet_46 (by decide) (fun c46 => ?_) (fun c46 => ?_)
      · skip
        refine zv_aload_n dX8_doSet_66 rfl ?_
        refine zM_get hn zf_X8_69_6 rfl dX8_doSet_67 ?_
        refine zv_iconstv (v := 2) dX8_doSet_70 (by decide) ?_
        refine zv_icmp_ne (tgt := 82) dX8_doSet_71 (by decide) (fun c71 => ?_) (fun c71 => ?_)
        · skip
          refine zv_aload_n dX8_doSet_82 rfl ?_
          refine zM_get hn zf_X8_72_6 rfl dX8_doSet_83 ?_
          refine zv_i2l dX8_doSet_86 ?_
          refine zv_lconstv (v := 1) dX8_doSet_87 (by decide) ?_
          refine zv_ladd dX8_doSet_88 ?_
          refine zM_ast11 hn (by first | with_reducible exact hr | with_reducible exact rk_p (hq (sF_out (by assumption)).1) _ (sF_out (by assumption)).2.1 | with_reducible exact rk_i (hq (sF_out (by assumption)).1)) dX8_doSet_89 ?_
          refine zv_iload_n dX8_doSet_90 rfl ?_
          exact zv_ireturn dX8_doSet_91 rfl (by refine ⟨?_, ?_⟩ <;> simp_all [-Int32.not_lt, -Int32.not_le, ← Int32.not_lt, xT, xW, xK, xS, xF, xP, zb_0, zb_n, out_bey, s_setS, s_setV])
        · skip
          refine zv_aload_n dX8_doSet_74 rfl ?_
          refine zM_get hn zf_X8_72_6 rfl dX8_doSet_75 ?_
          refine zv_i2l dX8_doSet_78 ?_
          refine zv_goto (tgt := 89) dX8_doSet_79 (by decide) ?_
          refine zM_ast11 hn (by first | with_reducible exact hr | with_reducible exact rk_p (hq (sF_out (by assumption)).1) _ (sF_out (by assumption)).2.1 | with_reducible exact rk_i (hq (sF_out (by assumption)).1)) dX8_doSet_89 ?_
          refine zv_iload_n dX8_doSet_90 rfl ?_
          exact zv_ireturn dX8_doSet_91 rfl (by refine ⟨?_, ?_⟩ <;> simp_all [-Int32.not_lt, -Int32.not_le, ← Int32.not_lt, xT, xW, xK, xS, xF, xP, zb_0, zb_n, out_bey, s_setS, s_setV])
      · skip
        refine zv_aload_n dX8_doSet_49 rfl ?_
        refine zM_get hn zf_X8_20_6 rfl dX8_doSet_50 ?_
        refine zv_iload dX8_doSet_53 rfl ?_
        refine zM_ald9 hn (by first | with_reducible exact hr | with_reducible exact rk_p (hq (sF_out (by assumption)).1) _ (sF_out (by assumption)).2.1 | with_reducible exact rk_i (hq (sF_out (by assumption)).1)) dX8_doSet_55 ?_
        refine zv_aload_n dX8_doSet_56 rfl ?_
        refine zM_get hn zf_X8_78_6 rfl dX8_doSet_57 ?_
        refine zv_callSq (mc := 0) (ms := 0) zm_X8_84 zkyX8_as cM_as rfl rfl (Nat.le_of_ble_eq_true rfl) (by decide) dX8_doSet_60 ?_
        refine zv_goto (tgt := 89) dX8_doSet_63 (by decide) ?_
        refine zM_ast11 hn (by first | with_reducible exact hr | with_reducible exact rk_p (hq (sF_out (by assumption)).1) _ (sF_out (by assumption)).2.1 | with_reducible exact rk_i (hq (sF_out (by assumption)).1)) dX8_doSet_89 ?_
        refine zv_iload_n dX8_doSet_90 rfl ?_
        exact zv_ireturn dX8_doSet_91 rfl (by refine ⟨?_, ?_⟩ <;> simp_all [-Int32.not_lt, -Int32.not_le, ← Int32.not_lt, xT, xW, xK, xS, xF, xP, zb_0, zb_n, out_bey, s_setS, s_setV])
    · skip
      refine zv_lconstv (v := 0) dX8_doSet_37 (by decide) ?_
      refine zv_goto (tgt := 89) dX8_doSet_38 (by decide) ?_
      refine zM_ast11 hn (by first | with_reducible exact hr | with_reducible exact rk_p (hq (sF_out (by assumption)).1) _ (sF_out (by assumption)).2.1 | with_reducible exact rk_i (hq (sF_out (by assumption)).1)) dX8_doSet_89 ?_
      refine zv_iload_n dX8_doSet_90 rfl ?_
      exact zv_ireturn dX8_doSet_91 rfl (by refine ⟨?_, ?_⟩ <;> simp_all [-Int32.not_lt, -Int32.not_le, ← Int32.not_lt, xT, xW, xK, xS, xF, xP, zb_0, zb_n, out_bey, s_setS, s_setV])
set_option maxRecDepth 20000 in
set_option maxHeartbeats 4000000 in
theorem cM_doRead {G : zh_G} {l : Launch} {g : Nat → va_E} {nn : Nat} {σ : sg} (hn : zg_B G + 28 ≤ nn) {t q i to : Int32} (hq : t = 3 → rk σ q) : zc G l yX8_doRead cX8_doRead 6 (some .int) 2 [.ref (zg_B G + 18), .int t, .int q, .int i, .int to] (ms G g σ, nn) 0 0 (fun o h' => o = some (.int (s_rF σ t q i to)) ∧ h' = (ms G g (s_readS σ t q i to), nn)) := by
  refine zc.of (by decide) (Nat.le_of_ble_eq_true rfl) ?_
  refine zv_aload_n dX8_doRead_0 rfl ?_
  refine zv_iload_n dX8_doRead_1 rfl ?_
  refine zv_iload_n dX8_doRead_2 rfl ?_
  refine zv_iload_n dX8_doRead_3 rfl ?_
  refine zv_iload dX8_doRead_4 rfl ?_
  refine zM_call hn zm_X8_130 zkyX8_readFault rfl (cM_readFault hn hq) rfl rfl (Nat.le_of_ble_eq_true rfl) (by decide) dX8_doRead_6 ?_
  refine zv_istore dX8_doRead_9 (by decide) ?_
  refine zv_iload dX8_doRead_11 rfl ?_
  refine zv_if_ne (tgt := 38) dX8_doRead_13 (by decide) (fun c13 => ?_) (fun c13 => ?_)
  · skip
    refine zv_iload dX8_doRead_38 rfl ?_
    exact zv_ireturn dX8_doRead_40 rfl (by refine ⟨?_, ?_⟩ <;> simp_all [-Int32.not_lt, -Int32.not_le, ← Int32.not_lt, xT, xW, xK, xS, xF, xP, zb_0, zb_n, out_bey, s_readS])
  · skip
    refine zv_aload_n dX8_doRead_16 rfl ?_
    refine zv_iload dX8_doRead_17 rfl ?_
    refine zv_iload dX8_doRead_19 rfl ?_
    refine zv_aload_n dX8_doRead_21 rfl ?_
    refine zM_get hn zf_X8_27_6 rfl dX8_doRead_22 ?_
    refine zv_bipushv (v := 16) dX8_doRead_25 (by decide) ?_
    refine zv_iload_n dX8_doRead_27 rfl ?_
    refine zv_imul dX8_doRead_28 ?_
    refine zv_iload_n dX8_doRead_29 rfl ?_
    refine zv_iadd dX8_doRead_30 ?_
    refine zM_ald11 hn (by exact rk_p (hq (rF_out (by assumption)).1) _ (rF_out (by assumption)).2.2.1) dX8_doRead_31 ?_
    refine zv_callSq (mc := 0) (ms := 0) zm_X8_84 zkyX8_as cM_as rfl rfl (Nat.le_of_ble_eq_true rfl) (by decide) dX8_doRead_32 ?_
    refine zM_call hn zm_X8_88 zkyX8_hold rfl (cM_hold hn) rfl rfl (Nat.le_of_ble_eq_true rfl) (by decide) dX8_doRead_35 ?_
    refine zv_iload dX8_doRead_38 rfl ?_
    exact zv_ireturn dX8_doRead_40 rfl (by refine ⟨?_, ?_⟩ <;> simp_all [-Int32.not_lt, -Int32.not_le, ← Int32.not_lt, xT, xW, xK, xS, xF, xP, zb_0, zb_n, out_bey, s_readS])
set_option maxRecDepth 20000 in
set_option maxHeartbeats 4000000 in
theorem cM_doWrite {G : zh_G} {l : Launch} {g : Nat → va_E} {nn : Nat} {σ : sg} (hn : zg_B G + 28 ≤ nn) {t q i of : Int32} {v : Int64} (hq : t = 3 → rk σ q) : zc G l yX8_doWrite cX8_doWrite 8 (some .int) 2 [.ref (zg_B G + 18), .int t, .int q, .int i, .int of, .long v] (ms G g σ, nn) 0 0 (fun o h' => o = some (.int (s_wF σ t q i of)) ∧ h' = (ms G g (s_writeS σ t q i of v), nn)) := by
  refine zc.of (by decide) (Nat.le_of_ble_eq_true rfl) ?_
  refine zv_aload_n dX8_doWrite_0 rfl ?_
  refine zv_iload_n dX8_doWrite_1 rfl ?_
  refine zv_iload_n dX8_doWrite_2 rfl ?_
  refine zv_iload_n dX8_doWrite_3 rfl ?_
  refine zv_iload dX8_doWrite_4 rfl ?_
  refine zM_call hn zm_X8_137 zkyX8_writeFault rfl (cM_writeFault hn hq) rfl rfl (Nat.le_of_ble_eq_true rfl) (by decide) dX8_doWrite_6 ?_
  refine zv_istore dX8_doWrite_9 (by decide) ?_
  refine zv_iload dX8_doWrite_11 rfl ?_
  refine zv_if_ne (tgt := 43) dX8_doWrite_13 (by decide) (fun c13 => ?_) (fun c13 => ?_)
  · skip
    refine zv_iload dX8_doWrite_43 rfl ?_
    exact zv_ireturn dX8_doWrite_45 rfl (by refine ⟨?_, ?_⟩ <;> simp_all [-Int32.not_lt, -Int32.not_le, ← Int32.not_lt, xT, xW, xK, xS, xF, xP, zb_0, zb_n, out_bey, s_writeS])
  · skip
    refine zv_aload_n dX8_doWrite_16 rfl ?_
    refine zM_get hn zf_X8_27_6 rfl dX8_doWrite_17 ?_
    refine zv_bipushv (v := 16) dX8_doWrite_20 (by decide) ?_
    refine zv_iload_n dX8_doWrite_22 rfl ?_
    refine zv_imul dX8_doWrite_23 ?_
    refine zv_iload_n dX8_doWrite_24 rfl ?_
    refine zv_iadd dX8_doWrite_25 ?_
    refine zv_aload_n dX8_doWrite_26 rfl ?_
    refine zM_get hn zf_X8_20_6 rfl dX8_doWrite_27 ?_
    refine zv_iload_n dX8_doWrite_30 rfl ?_
    refine zM_ald9 hn (by first | with_reducible exact rk_p (hq (wF_out (by assumption)).1) _ (wF_out (by assumption)).2.2.1 | with_reducible exact rk_i (hq (wF_out (by assumption)).1)) dX8_doWrite_31 ?_
    refine zv_iload dX8_doWrite_32 rfl ?_
    refine zv_lload dX8_doWrite_34 rfl ?_
    refine zv_callSq (mc := 0) (ms := 0) zm_X8_84 zkyX8_as cM_as rfl rfl (Nat.le_of_ble_eq_true rfl) (by decide) dX8_doWrite_36 ?_
    refine zv_callSq (mc := 0) (ms := 0) zm_X8_84 zkyX8_as cM_as rfl rfl (Nat.le_of_ble_eq_true rfl) (by decide) dX8_doWrite_39 ?_
    refine zM_ast11 hn (by first | with_reducible exact rk_p (hq (wF_out (by assumption)).1) _ (wF_out (by assumption)).2.2.1 | with_reducible exact rk_i (hq (wF_out (by assumption)).1)) dX8_doWrite_42 ?_
    refine zv_iload dX8_doWrite_43 rfl ?_
    exact zv_ireturn dX8_doWrite_45 rfl (by refine ⟨?_, ?_⟩ <;> simp_all [-Int32.not_lt, -Int32.not_le, ← Int32.not_lt, xT, xW, xK, xS, xF, xP, zb_0, zb_n, out_bey, s_writeS])
set_option maxRecDepth 20000 in
set_option maxHeartbeats 4000000 in
theorem cM_finds {G : zh_G} {l : Launch} {g : Nat → va_E} {nn : Nat} {σ : sg} (hn : zg_B G + 28 ≤ nn) {r i : Int32} (hr : vp_in r 10) (hq : xT σ r = 3 → rk σ (xW σ r)) : zc G l yX8_finds cX8_finds 7 (some .int) 2 [.ref (zg_B G + 18), .int r, .int i] (ms G g σ, nn) 0 0 (fun o h' => o = some (.int (s_gF σ (xT σ r) (xW σ r) i)) ∧ h' = (ms G g (s_fiS σ r i), nn)) := by
  refine zc.of (by decide) (Nat.le_of_ble_eq_true rfl) ?_
  refine zv_aload_n dX8_finds_0 rfl ?_
  refine zv_aload_n dX8_finds_1 rfl ?_
  refine zM_get hn zf_X8_7_6 rfl dX8_finds_2 ?_
  refine zv_iload_n dX8_finds_5 rfl ?_
  refine zM_ald0 hn (by first | with_reducible exact hr | with_reducible exact rk_p (hq (gF_out (by assumption)).1) _ (gF_out (by assumption)).2 | with_reducible exact rk_i (hq (gF_out (by assumption)).1)) dX8_finds_6 ?_
  refine zv_aload_n dX8_finds_7 rfl ?_
  refine zM_get hn zf_X8_13_6 rfl dX8_finds_8 ?_
  refine zv_iload_n dX8_finds_11 rfl ?_
  refine zM_ald1 hn (by first | with_reducible exact hr | with_reducible exact rk_p (hq (gF_out (by assumption)).1) _ (gF_out (by assumption)).2 | with_reducible exact rk_i (hq (gF_out (by assumption)).1)) dX8_finds_12 ?_
  refine zv_iload_n dX8_finds_13 rfl ?_
  refine zM_call hn zm_X8_107 zkyX8_getFault rfl (cM_getFault hn hq) rfl rfl (Nat.le_of_ble_eq_true rfl) (by decide) dX8_finds_14 ?_
  refine zv_istore_n dX8_finds_17 (by decide) ?_
  refine zv_iload_n dX8_finds_18 rfl ?_
  refine zv_if_ne (tgt := 113) dX8_finds_19 (by decide) (fun c19 => ?_) (fun c19 => ?_)
  · skip
    refine zv_iload_n dX8_finds_113 rfl ?_
    exact zv_ireturn dX8_finds_114 rfl (by refine ⟨?_, ?_⟩ <;> simp_all [-Int32.not_lt, -Int32.not_le, ← Int32.not_lt, xT, xW, xK, xS, xF, xP, zb_0, zb_n, out_bey, s_fiS, s_fiT, cmp_eq, si, upd])
  · skip
    refine zv_aload_n dX8_finds_22 rfl ?_
    refine zM_get hn zf_X8_13_6 rfl dX8_finds_23 ?_
    refine zv_iload_n dX8_finds_26 rfl ?_
    refine zM_ald1 hn (by first | with_reducible exact hr | with_reducible exact rk_p (hq (gF_out (by assumption)).1) _ (gF_out (by assumption)).2 | with_reducible exact rk_i (hq (gF_out (by assumption)).1)) dX8_finds_27 ?_
    refine zv_istore dX8_finds_28 (by decide) ?_
    refine zv_aload_n dX8_finds_30 rfl ?_
    refine zM_get hn zf_X8_27_6 rfl dX8_finds_31 ?_
    refine zv_bipushv (v := 16) dX8_finds_34 (by decide) ?_
    refine zv_iload dX8_finds_36 rfl ?_
    refine zv_imul dX8_finds_38 ?_
    refine zv_iload_n dX8_finds_39 rfl ?_
    refine zv_iadd dX8_finds_40 ?_
    refine zM_ald11 hn (by first | with_reducible exact hr | with_reducible exact rk_p (hq (gF_out (by assumption)).1) _ (gF_out (by assumption)).2 | with_reducible exact rk_i (hq (gF_out (by assumption)).1)) dX8_finds_41 ?_
    refine zv_lstore dX8_finds_42 (by decide) ?_
    refine zv_aload_n dX8_finds_44 rfl ?_
    refine zv_aload_n dX8_finds_45 rfl ?_
    refine zM_get hn zf_X8_20_6 rfl dX8_finds_46 ?_
    refine zv_iload dX8_finds_49 rfl ?_
    refine zM_ald9 hn (by first | with_reducible exact hr | with_reducible exact rk_p (hq (gF_out (by assumption)).1) _ (gF_out (by assumption)).2 | with_reducible exact rk_i (hq (gF_out (by assumption)).1)) dX8_finds_51 ?_
    refine zv_bipushv (v := 8) dX8_finds_52 (by decide) ?_
    refine zv_icmp_ge (tgt := 61) dX8_finds_54 (by decide) (fun c54 => ?_) (fun c54 => ?_)
    · skip
      refine zv_lload dX8_finds_61 rfl ?_
      refine zv_lconstv (v := 0) dX8_finds_63 (by decide) ?_
      refine zv_lcmp dX8_finds_64 ?_
      refine zv_if_ne (tgt := 72) dX8_finds_65 (by decide) (fun c65 => ?_) (fun c65 => ?_)
      · skip
        refine zv_aload_n dX8_finds_72 rfl ?_
        refine zM_get hn zf_X8_20_6 rfl dX8_finds_73 ?_
        refine zv_iload dX8_finds_76 rfl ?_
        refine zM_ald9 hn (by first | with_reducible exact hr | with_reducible exact rk_p (hq (gF_out (by assumption)).1) _ (gF_out (by assumption)).2 | with_reducible exact rk_i (hq (gF_out (by assumption)).1)) dX8_finds_78 ?_
        refine zv_bipushv (v := 10) dX8_finds_79 (by decide) ?_
        refine zv_icmp_ne (tgt := 88) dX8_finds_81 (by decide) (fun c81 => ?_) (fun c81 => ?_)
        · skip
          refine zv_iconstv (v := 2) dX8_finds_88 (by decide) ?_
          refine zM_put18 hn zfw_X8_147_6 dX8_finds_89 ?_
          refine zv_aload_n dX8_finds_92 rfl ?_
          refine zv_aload_n dX8_finds_93 rfl ?_
          refine zM_get hn zf_X8_147_6 rfl dX8_finds_94 ?_
          refine zv_iconstv (v := 3) dX8_finds_97 (by decide) ?_
          refine zv_icmp_ne (tgt := 109) dX8_finds_98 (by decide) (fun c98 => ?_) (fun c98 => ?_)
          · skip
            refine zv_iconstv (v := 0) dX8_finds_109 (by decide) ?_
            refine zM_put19 hn zfw_X8_150_6 dX8_finds_110 ?_
            refine zv_iload_n dX8_finds_113 rfl ?_
            exact zv_ireturn dX8_finds_114 rfl (by refine ⟨?_, ?_⟩ <;> simp_all [-Int32.not_lt, -Int32.not_le, ← Int32.not_lt, xT, xW, xK, xS, xF, xP, zb_0, zb_n, out_bey, s_fiS, s_fiT, cmp_eq, si, upd])
          · skip
            refine zv_lload dX8_finds_101 rfl ?_
            refine zv_l2i dX8_finds_103 ?_
            refine zv_iconstv (v := 1) dX8_finds_104 (by decide) ?_
            refine zv_isub dX8_finds_105 ?_
            refine zv_goto (tgt := 110) dX8_finds_106 (by decide) ?_
            refine zM_put19 hn zfw_X8_150_6 dX8_finds_110 ?_
            refine zv_iload_n dX8_finds_113 rfl ?_
            exact zv_ireturn dX8_finds_114 rfl (by refine ⟨?_, ?_⟩ <;> simp_all [-Int32.not_lt, -Int32.not_le, ← Int32.not_lt, xT, xW, xK, xS, xF, xP, zb_0, zb_n, out_bey, s_fiS, s_fiT, cmp_eq, si, upd])
        · skip
          refine zv_iconstv (v := 3) dX8_finds_84 (by decide) ?_
          refine zv_goto (tgt := 89) dX8_finds_85 (by decide) ?_
          refine zM_put18 hn zfw_X8_147_6 dX8_finds_89 ?_
          refine zv_aload_n dX8_finds_92 rfl ?_
          refine zv_aload_n dX8_finds_93 rfl ?_
          refine zM_get hn zf_X8_147_6 rfl dX8_finds_94 ?_
          refine zv_iconstv (v := 3) dX8_finds_97 (by decide) ?_
          refine zv_icmp_ne (tgt := 109) dX8_finds_98 (by decide) (fun c98 => ?_) (fun c98 => ?_)
          · skip
            refine zv_iconstv (v := 0) dX8_finds_109 (by decide) ?_
            refine zM_put19 hn zfw_X8_150_6 dX8_finds_110 ?_
            refine zv_iload_n dX8_finds_113 rfl ?_
            exact zv_ireturn dX8_finds_114 rfl (by refine ⟨?_, ?_⟩ <;> simp_all [-Int32.not_lt, -Int32.not_le, ← Int32.not_lt, xT, xW, xK, xS, xF, xP, zb_0, zb_n, out_bey, s_fiS, s_fiT, cmp_eq, si, upd])
          · skip
            refine zv_lload dX8_finds_101 rfl ?_
            refine zv_l2i dX8_finds_103 ?_
            refine zv_iconstv (v := 1) dX8_finds_104 (by decide) ?_
            refine zv_isub dX8_finds_105 ?_
            refine zv_goto (tgt := 110) dX8_finds_106 (by decide) ?_
            refine zM_put19 hn zfw_X8_150_6 dX8_finds_110 ?_
            refine zv_iload_n dX8_finds_113 rfl ?_
            exact zv_ireturn dX8_finds_114 rfl (by refine ⟨?_, ?_⟩ <;> simp_all [-Int32.not_lt, -Int32.not_le, ← Int32.not_lt, xT, xW, xK, xS, xF, xP, zb_0, zb_n, out_bey, s_fiS, s_fiT, cmp_eq, si, upd])
      · skip
        refine zv_iconstv (v := 0) dX8_finds_68 (by decide) ?_
        refine zv_goto (tgt := 89) dX8_finds_69 (by decide) ?_
        refine zM_put18 hn zfw_X8_147_6 dX8_finds_89 ?_
        refine zv_aload_n dX8_finds_92 rfl ?_
        refine zv_aload_n dX8_finds_93 rfl ?_
        refine zM_get hn zf_X8_147_6 rfl dX8_finds_94 ?_
        refine zv_iconstv (v := 3) dX8_finds_97 (by decide) ?_
        refine zv_icmp_ne (tgt := 109) dX8_finds_98 (by decide) (fun c98 => ?_) (fun c98 => ?_)
        · skip
          refine zv_iconstv (v := 0) dX8_finds_109 (by decide) ?_
          refine zM_put19 hn zfw_X8_150_6 dX8_finds_110 ?_
          refine zv_iload_n dX8_finds_113 rfl ?_
          exact zv_ireturn dX8_finds_114 rfl (by refine ⟨?_, ?_⟩ <;> simp_all [-Int32.not_lt, -Int32.not_le, ← Int32.not_lt, xT, xW, xK, xS, xF, xP, zb_0, zb_n, out_bey, s_fiS, s_fiT, cmp_eq, si, upd])
        · skip
          refine zv_lload dX8_finds_101 rfl ?_
          refine zv_l2i dX8_finds_103 ?_
          refine zv_iconstv (v := 1) dX8_finds_104 (by decide) ?_
          refine zv_isub dX8_finds_105 ?_
          refine zv_goto (tgt := 110) dX8_finds_106 (by decide) ?_
          refine zM_put19 hn zfw_X8_150_6 dX8_finds_110 ?_
          refine zv_iload_n dX8_finds_113 rfl ?_
          exact zv_ireturn dX8_finds_114 rfl (by refine ⟨?_, ?_⟩ <;> simp_all [-Int32.not_lt, -Int32.not_le, ← Int32.not_lt, xT, xW, xK, xS, xF, xP, zb_0, zb_n, out_bey, s_fiS, s_fiT, cmp_eq, si, upd])
    · skip
      refine zv_iconstv (v := 1) dX8_finds_57 (by decide) ?_
      refine zv_goto (tgt := 89) dX8_finds_58 (by decide) ?_
      refine zM_put18 hn zfw_X8_147_6 dX8_finds_89 ?_
      refine zv_aload_n dX8_finds_92 rfl ?_
      refine zv_aload_n dX8_finds_93 rfl ?_
      refine zM_get hn zf_X8_147_6 rfl dX8_finds_94 ?_
      refine zv_iconstv (v := 3) dX8_finds_97 (by decide) ?_
      refine zv_icmp_ne (tgt := 109) dX8_finds_98 (by decide) (fun c98 => ?_) (fun c98 => ?_)
      · skip
        refine zv_iconstv (v := 0) dX8_finds_109 (by decide) ?_
        refine zM_put19 hn zfw_X8_150_6 dX8_finds_110 ?_
        refine zv_iload_n dX8_finds_113 rfl ?_
        exact zv_ireturn dX8_finds_114 rfl (by refine ⟨?_, ?_⟩ <;> simp_all [-Int32.not_lt, -Int32.not_le, ← Int32.not_lt, xT, xW, xK, xS, xF, xP, zb_0, zb_n, out_bey, s_fiS, s_fiT, cmp_eq, si, upd])
      · skip
        refine zv_lload dX8_finds_101 rfl ?_
        refine zv_l2i dX8_finds_103 ?_
        refine zv_iconstv (v := 1) dX8_finds_104 (by decide) ?_
        refine zv_isub dX8_finds_105 ?_
        refine zv_goto (tgt := 110) dX8_finds_106 (by decide) ?_
        refine zM_put19 hn zfw_X8_150_6 dX8_finds_110 ?_
        refine zv_iload_n dX8_finds_113 rfl ?_
        exact zv_ireturn dX8_finds_114 rfl (by refine ⟨?_, ?_⟩ <;> simp_all [-Int32.not_lt, -Int32.not_le, ← Int32.not_lt, xT, xW, xK, xS, xF, xP, zb_0, zb_n, out_bey, s_fiS, s_fiT, cmp_eq, si, upd])
set_option maxRecDepth 20000 in
set_option maxHeartbeats 4000000 in
theorem cM_doWithin {G : zh_G} {l : Launch} {g : Nat → va_E} {nn : Nat} {σ : sg} (hn : zg_B G + 28 ≤ nn) {r i j : Int32} (hr : vp_in r 10) (hq : xT σ r = 3 → rk σ (xW σ r)) (hf : (s_fiS σ r i).1 18 = 3 → rk (s_fiS σ r i) ((s_fiS σ r i).1 19)) : zc G l yX8_doWithin cX8_doWithin 5 (some .int) 3 [.ref (zg_B G + 18), .int r, .int i, .int j] (ms G g σ, nn) 0 0 (fun o h' => o = some (.int (s_wiF σ r i j)) ∧ h' = (ms G g (s_wiS σ r i j), nn)) := by
  refine zc.of (by decide) (Nat.le_of_ble_eq_true rfl) ?_
  refine zv_aload_n dX8_doWithin_0 rfl ?_
  refine zv_iload_n dX8_doWithin_1 rfl ?_
  refine zv_iload_n dX8_doWithin_2 rfl ?_
  refine zM_callg hn zm_X8_153 zkyX8_finds rfl (cM_finds hn hr hq) rfl rfl (Nat.le_of_ble_eq_true rfl) (by decide) dX8_doWithin_3 (fun σ3 e3 => ?_)
  refine zv_istore dX8_doWithin_6 (by decide) ?_
  refine zv_iload dX8_doWithin_8 rfl ?_
  refine zv_if_le (tgt := 18) dX8_doWithin_10 (by decide) (fun c10 => ?_) (fun c10 => ?_)
  · skip
    refine zv_aload_n dX8_doWithin_18 rfl ?_
    refine zv_aload_n dX8_doWithin_19 rfl ?_
    refine zM_get hn zf_X8_147_6 rfl dX8_doWithin_20 ?_
    refine zv_aload_n dX8_doWithin_23 rfl ?_
    refine zM_get hn zf_X8_150_6 rfl dX8_doWithin_24 ?_
    refine zv_iload_n dX8_doWithin_27 rfl ?_
    refine zv_iconstv (v := 5) dX8_doWithin_28 (by decide) ?_
    refine zM_call hn zm_X8_134 zkyX8_doRead rfl (cM_doRead hn (by subst e3; exact hf)) rfl rfl (Nat.le_of_ble_eq_true rfl) (by decide) dX8_doWithin_29 ?_
    exact zv_ireturn dX8_doWithin_32 rfl (by refine ⟨?_, ?_⟩ <;> simp_all [-Int32.not_lt, -Int32.not_le, ← Int32.not_lt, xT, xW, xK, xS, xF, xP, zb_0, zb_n, out_bey, s_wiF, s_wiS])
  · skip
    refine zv_iload dX8_doWithin_13 rfl ?_
    refine zv_goto (tgt := 32) dX8_doWithin_15 (by decide) ?_
    exact zv_ireturn dX8_doWithin_32 rfl (by refine ⟨?_, ?_⟩ <;> simp_all [-Int32.not_lt, -Int32.not_le, ← Int32.not_lt, xT, xW, xK, xS, xF, xP, zb_0, zb_n, out_bey, s_wiF, s_wiS])
set_option maxRecDepth 20000 in
set_option maxHeartbeats 4000000 in
theorem cM_firstFault {G : zh_G} {l : Launch} {g : Nat → va_E} {nn : Nat} {σ : sg} (hn : zg_B G + 28 ≤ nn) {r : Int32} (hr : vp_in r 10) (hq : xT σ r = 3 → rk σ (xW σ r)) : zc G l yX8_firstFault cX8_firstFault 3 (some .int) 1 [.ref (zg_B G + 18), .int r] (ms G g σ, nn) 0 0 (fun o h' => o = some (.int (if 0 < s_szF σ r then s_szF σ r else if xS σ (xW σ r) = 0 then 3 else 0)) ∧ h' = (ms G g σ, nn)) := by
  refine zc.of (by decide) (Nat.le_of_ble_eq_true rfl) ?_
  refine zv_aload_n dX8_firstFault_0 rfl ?_
  refine zv_iload_n dX8_firstFault_1 rfl ?_
  refine zM_call hn zm_X8_144 zkyX8_sizeFault rfl (cM_sizeFault hn hr) rfl rfl (Nat.le_of_ble_eq_true rfl) (by decide) dX8_firstFault_2 ?_
  refine zv_istore_n dX8_firstFault_5 (by decide) ?_
  refine zv_iload_n dX8_firstFault_6 rfl ?_
  refine zv_if_le (tgt := 14) dX8_firstFault_7 (by decide) (fun c7 => ?_) (fun c7 => ?_)
  · skip
    refine zv_aload_n dX8_firstFault_14 rfl ?_
    refine zM_get hn zf_X8_23_6 rfl dX8_firstFault_15 ?_
    refine zv_aload_n dX8_firstFault_18 rfl ?_
    refine zM_get hn zf_X8_13_6 rfl dX8_firstFault_19 ?_
    refine zv_iload_n dX8_firstFault_22 rfl ?_
    refine zM_ald1 hn (by first | with_reducible exact hr | with_reducible exact rk_i (hq (szF_3 (by assumption)))) dX8_firstFault_23 ?_
    refine zM_ald10 hn (by first | with_reducible exact hr | with_reducible exact rk_i (hq (szF_3 (by assumption)))) dX8_firstFault_24 ?_
    refine zv_if_ne (tgt := 32) dX8_firstFault_25 (by decide) (fun c25 => ?_) (fun c25 => ?_)
    · skip
      refine zv_iconstv (v := 0) dX8_firstFault_32 (by decide) ?_
      exact zv_ireturn dX8_firstFault_33 rfl (by refine ⟨?_, ?_⟩ <;> simp_all [-Int32.not_lt, -Int32.not_le, ← Int32.not_lt, xT, xW, xK, xS, xF, xP, zb_0, zb_n, out_bey])
    · skip
      refine zv_iconstv (v := 3) dX8_firstFault_28 (by decide) ?_
      refine zv_goto (tgt := 33) dX8_firstFault_29 (by decide) ?_
      exact zv_ireturn dX8_firstFault_33 rfl (by refine ⟨?_, ?_⟩ <;> simp_all [-Int32.not_lt, -Int32.not_le, ← Int32.not_lt, xT, xW, xK, xS, xF, xP, zb_0, zb_n, out_bey])
  · skip
    refine zv_iload_n dX8_firstFault_10 rfl ?_
    refine zv_goto (tgt := 33) dX8_firstFault_11 (by decide) ?_
    exact zv_ireturn dX8_firstFault_33 rfl (by refine ⟨?_, ?_⟩ <;> simp_all [-Int32.not_lt, -Int32.not_le, ← Int32.not_lt, xT, xW, xK, xS, xF, xP, zb_0, zb_n, out_bey])
set_option maxRecDepth 20000 in
set_option maxHeartbeats 4000000 in
theorem cM_has {G : zh_G} {l : Launch} {g : Nat → va_E} {nn : Nat} {σ : sg} (hn : zg_B G + 28 ≤ nn) (hw : σ.1 2 ≠ 0 → σ.1 2 ≠ 1 → σ.1 2 ≠ 3 → vp_in (σ.1 5) 41) : zc G l yX8_has cX8_has 1 (some .int) 0 [.ref (zg_B G + 18)] (ms G g σ, nn) 0 0 (fun o h' => o = some (.int (s_has σ)) ∧ h' = (ms G g σ, nn)) := by
  refine zc.of (by decide) (Nat.le_of_ble_eq_true rfl) ?_
  refine zv_aload_n dX8_has_0 rfl ?_
  refine zM_get hn zf_X8_69_6 rfl dX8_has_1 ?_
  refine zv_if_ne (tgt := 12) dX8_has_4 (by decide) (fun c4 => ?_) (fun c4 => ?_)
  · skip
    refine zv_aload_n dX8_has_12 rfl ?_
    refine zM_get hn zf_X8_69_6 rfl dX8_has_13 ?_
    refine zv_iconstv (v := 1) dX8_has_16 (by decide) ?_
    refine zv_icmp_ne (tgt := 27) dX8_has_17 (by decide) (fun c17 => ?_) (fun c17 => ?_)
    · skip
      refine zv_aload_n dX8_has_27 rfl ?_
      refine zM_get hn zf_X8_69_6 rfl dX8_has_28 ?_
      refine zv_iconstv (v := 3) dX8_has_31 (by decide) ?_
      refine zv_icmp_ne (tgt := 40) dX8_has_32 (by decide) (fun c32 => ?_) (fun c32 => ?_)
      · skip
        refine zv_aload_n dX8_has_40 rfl ?_
        refine zM_get hn zf_X8_16_6 rfl dX8_has_41 ?_
        refine zv_aload_n dX8_has_44 rfl ?_
        refine zM_get hn zf_X8_72_6 rfl dX8_has_45 ?_
        refine zM_ald7 hn (hw (by assumption) (by assumption) (by assumption)) dX8_has_48 ?_
        refine zv_if_eq (tgt := 57) dX8_has_49 (by decide) (fun c49 => ?_) (fun c49 => ?_)
        · skip
          refine zv_bipushv (v := 8) dX8_has_57 (by decide) ?_
          exact zv_ireturn dX8_has_59 rfl (by refine ⟨?_, ?_⟩ <;> simp_all [-Int32.not_lt, -Int32.not_le, ← Int32.not_lt, xT, xW, xK, xS, xF, xP, zb_0, zb_n, out_bey, s_has])
        · skip
          refine zv_bipushv (v := 9) dX8_has_52 (by decide) ?_
          refine zv_goto (tgt := 59) dX8_has_54 (by decide) ?_
          exact zv_ireturn dX8_has_59 rfl (by refine ⟨?_, ?_⟩ <;> simp_all [-Int32.not_lt, -Int32.not_le, ← Int32.not_lt, xT, xW, xK, xS, xF, xP, zb_0, zb_n, out_bey, s_has])
      · skip
        refine zv_bipushv (v := 10) dX8_has_35 (by decide) ?_
        refine zv_goto (tgt := 59) dX8_has_37 (by decide) ?_
        exact zv_ireturn dX8_has_59 rfl (by refine ⟨?_, ?_⟩ <;> simp_all [-Int32.not_lt, -Int32.not_le, ← Int32.not_lt, xT, xW, xK, xS, xF, xP, zb_0, zb_n, out_bey, s_has])
    · skip
      refine zv_aload_n dX8_has_20 rfl ?_
      refine zM_get hn zf_X8_75_6 rfl dX8_has_21 ?_
      refine zv_goto (tgt := 59) dX8_has_24 (by decide) ?_
      exact zv_ireturn dX8_has_59 rfl (by refine ⟨?_, ?_⟩ <;> simp_all [-Int32.not_lt, -Int32.not_le, ← Int32.not_lt, xT, xW, xK, xS, xF, xP, zb_0, zb_n, out_bey, s_has])
  · skip
    refine zv_bipushv (v := (-9)) dX8_has_7 (by decide) ?_
    refine zv_goto (tgt := 59) dX8_has_9 (by decide) ?_
    exact zv_ireturn dX8_has_59 rfl (by refine ⟨?_, ?_⟩ <;> simp_all [-Int32.not_lt, -Int32.not_le, ← Int32.not_lt, xT, xW, xK, xS, xF, xP, zb_0, zb_n, out_bey, s_has])
set_option maxRecDepth 20000 in
set_option maxHeartbeats 4000000 in
theorem cM_value {G : zh_G} {l : Launch} {g : Nat → va_E} {nn : Nat} {σ : sg} (hn : zg_B G + 28 ≤ nn) (hw : σ.1 2 ≠ 0 → σ.1 2 ≠ 1 → σ.1 2 ≠ 2 → vp_in (σ.1 5) 5000) : zc G l yX8_value cX8_value 1 (some .long) 0 [.ref (zg_B G + 18)] (ms G g σ, nn) 0 0 (fun o h' => o = some (.long (s_val σ)) ∧ h' = (ms G g σ, nn)) := by
  refine zc.of (by decide) (Nat.le_of_ble_eq_true rfl) ?_
  refine zv_aload_n dX8_value_0 rfl ?_
  refine zM_get hn zf_X8_69_6 rfl dX8_value_1 ?_
  refine zv_if_ne (tgt := 11) dX8_value_4 (by decide) (fun c4 => ?_) (fun c4 => ?_)
  · skip
    refine zv_aload_n dX8_value_11 rfl ?_
    refine zM_get hn zf_X8_69_6 rfl dX8_value_12 ?_
    refine zv_iconstv (v := 1) dX8_value_15 (by decide) ?_
    refine zv_icmp_ne (tgt := 26) dX8_value_16 (by decide) (fun c16 => ?_) (fun c16 => ?_)
    · skip
      refine zv_aload_n dX8_value_26 rfl ?_
      refine zM_get hn zf_X8_69_6 rfl dX8_value_27 ?_
      refine zv_iconstv (v := 2) dX8_value_30 (by decide) ?_
      refine zv_icmp_ne (tgt := 42) dX8_value_31 (by decide) (fun c31 => ?_) (fun c31 => ?_)
      · skip
        refine zv_aload_n dX8_value_42 rfl ?_
        refine zM_get hn zf_X8_23_6 rfl dX8_value_43 ?_
        refine zv_aload_n dX8_value_46 rfl ?_
        refine zM_get hn zf_X8_72_6 rfl dX8_value_47 ?_
        refine zM_ald10 hn (hw (by assumption) (by assumption) (by assumption)) dX8_value_50 ?_
        refine zv_i2l dX8_value_51 ?_
        exact zv_lreturn dX8_value_52 rfl (by refine ⟨?_, ?_⟩ <;> simp_all [-Int32.not_lt, -Int32.not_le, ← Int32.not_lt, xT, xW, xK, xS, xF, xP, zb_0, zb_n, out_bey, s_val])
      · skip
        refine zv_aload_n dX8_value_34 rfl ?_
        refine zM_get hn zf_X8_72_6 rfl dX8_value_35 ?_
        refine zv_i2l dX8_value_38 ?_
        refine zv_goto (tgt := 52) dX8_value_39 (by decide) ?_
        exact zv_lreturn dX8_value_52 rfl (by refine ⟨?_, ?_⟩ <;> simp_all [-Int32.not_lt, -Int32.not_le, ← Int32.not_lt, xT, xW, xK, xS, xF, xP, zb_0, zb_n, out_bey, s_val])
    · skip
      refine zv_aload_n dX8_value_19 rfl ?_
      refine zM_get hn zf_X8_78_6 rfl dX8_value_20 ?_
      refine zv_goto (tgt := 52) dX8_value_23 (by decide) ?_
      exact zv_lreturn dX8_value_52 rfl (by refine ⟨?_, ?_⟩ <;> simp_all [-Int32.not_lt, -Int32.not_le, ← Int32.not_lt, xT, xW, xK, xS, xF, xP, zb_0, zb_n, out_bey, s_val])
  · skip
    refine zv_lconstv (v := 0) dX8_value_7 (by decide) ?_
    refine zv_goto (tgt := 52) dX8_value_8 (by decide) ?_
    exact zv_lreturn dX8_value_52 rfl (by refine ⟨?_, ?_⟩ <;> simp_all [-Int32.not_lt, -Int32.not_le, ← Int32.not_lt, xT, xW, xK, xS, xF, xP, zb_0, zb_n, out_bey, s_val])
end
section
/-! the public methods of the reference: their answers (a_) and the state behind them (t_) -/
def s_rng (x lo hi : Int32) : Bool := decide (x < lo ∨ hi < x)
theorem bey_9 (x : Int32) : s_bey x.toInt64 0 9 = s_rng x 0 9 := bey32 x 0 9
theorem bey_10 (x : Int32) : s_bey x.toInt64 0 10 = s_rng x 0 10 := bey32 x 0 10
theorem bey_16 (x : Int32) : s_bey x.toInt64 0 16 = s_rng x 0 16 := bey32 x 0 16
theorem bey_7 (x : Int32) : s_bey x.toInt64 0 7 = s_rng x 0 7 := bey32 x 0 7
theorem bey_4 (x : Int32) : s_bey x.toInt64 0 4 = s_rng x 0 4 := bey32 x 0 4
theorem bey_5 (x : Int32) : s_bey x.toInt64 0 5 = s_rng x 0 5 := bey32 x 0 5
theorem bey_3 (x : Int32) : s_bey x.toInt64 0 3 = s_rng x 0 3 := bey32 x 0 3
theorem bey_m (x : Int32) : s_bey x.toInt64 (-1) 16 = s_rng x (-1) 16 := bey32 x (-1) 16
theorem bey_e (x e : Int32) : s_bey x.toInt64 0 e.toInt64 = s_rng x 0 e := bey32 x 0 e
def a_rack (r k n : Int32) : Int32 := if s_no r = true then -1 else if s_rng k 0 10 = true then -2 else if s_rng n 0 16 = true then -2 else n
def t_rack (σ : sg) (r k n : Int32) : sg := if s_no r = true then σ else if s_rng k 0 10 = true then σ else if s_rng n 0 16 = true then σ else sa (s_newS (sa σ 0 r.toNatClampNeg 3) k n) 1 r.toNatClampNeg (σ.1 8)
def a_hang (σ : sg) (r : Int32) : Int32 := if s_no r = true then -1 else if σ.1 2 < 2 then -3 else 1
def t_hang (σ : sg) (r : Int32) : sg := if s_no r = true then σ else if σ.1 2 < 2 then σ else sa (sa σ 0 r.toNatClampNeg (σ.1 2)) 1 r.toNatClampNeg (σ.1 5)
def a_share (r f : Int32) : Int32 := if s_no r = true then -1 else if s_no f = true then -1 else 1
def t_share (σ : sg) (r f : Int32) : sg := if s_no r = true then σ else if s_no f = true then σ else sa (sa σ 0 r.toNatClampNeg (xT σ f)) 1 r.toNatClampNeg (xW σ f)
def a_empty (r : Int32) : Int32 := if s_no r = true then -1 else 1
def t_empty (σ : sg) (r : Int32) : sg := if s_no r = true then σ else sa σ 0 r.toNatClampNeg 0
def a_gauge (k : Int32) : Int32 := if s_rng k 0 7 = true then -2 else 1
def t_gauge (σ : sg) (k : Int32) (v : Int64) : sg := if s_rng k 0 7 = true then σ else s_hold σ k (s_as k v)
def a_probe (σ : sg) : Int32 := if σ.1 6 = 40 then -4 else σ.1 6 + 1
def t_probe (σ : sg) (b : Int32) : sg := if σ.1 6 = 40 then σ else si (si (sa (si σ 6 (σ.1 6 + 1)) 7 (σ.1 6 + 1).toNatClampNeg b) 2 2) 5 (σ.1 6 + 1)
def a_line (n : Int32) : Int32 := if s_rng n 0 4 = true then -2 else 1
def t_line (σ : sg) (n : Int32) : sg := if s_rng n 0 4 = true then σ else si (s_newS (si σ 2 3) 4 n) 5 (σ.1 8)
def t_none (σ : sg) : sg := si σ 2 0
def a_get (σ : sg) (r i : Int32) : Int32 := if s_no r = true then -1 else s_ans (s_gF σ (xT σ r) (xW σ r) i) (s_has (s_getS σ r i))
def t_get (σ : sg) (r i : Int32) : sg := if s_no r = true then σ else s_ansS (s_getS σ r i) (s_gF σ (xT σ r) (xW σ r) i)
def a_set (σ : sg) (r i : Int32) : Int32 := if s_no r = true then -1 else s_ans (s_sF σ r i) 1
def t_sett (σ : sg) (r i : Int32) : sg := if s_no r = true then σ else s_ansS (s_setS σ r i) (s_sF σ r i)
def a_read (σ : sg) (r i to : Int32) : Int32 := if s_no r = true then -1 else if s_rng to 0 7 = true then -2 else s_ans (s_rF σ (xT σ r) (xW σ r) i to) 1
def t_read (σ : sg) (r i to : Int32) : sg := if s_no r = true then σ else if s_rng to 0 7 = true then σ else s_ansS (s_readS σ (xT σ r) (xW σ r) i to) (s_rF σ (xT σ r) (xW σ r) i to)
def a_write (σ : sg) (r i of : Int32) : Int32 := if s_no r = true then -1 else if s_rng of 0 7 = true then -2 else if ¬ σ.1 2 = 1 then -3 else s_ans (s_wF σ (xT σ r) (xW σ r) i of) 1
def t_write (σ : sg) (r i of : Int32) : sg := if s_no r = true then σ else if s_rng of 0 7 = true then σ else if ¬ σ.1 2 = 1 then σ else s_ansS (s_writeS σ (xT σ r) (xW σ r) i of σ.2.1) (s_wF σ (xT σ r) (xW σ r) i of)
def a_size (σ : sg) (r : Int32) : Int32 := if s_no r = true then -1 else s_ans (s_szF σ r) (if s_szF σ r ≤ 0 then xS σ (xW σ r) else 0)
def t_size (σ : sg) (r : Int32) : sg := if s_no r = true then σ else s_ansS σ (s_szF σ r)
def a_within (σ : sg) (r i j : Int32) : Int32 := if s_no r = true then -1 else s_ans (s_wiF σ r i j) 1
def t_within (σ : sg) (r i j : Int32) : sg := if s_no r = true then σ else s_ansS (s_wiS σ r i j) (s_wiF σ r i j)
def s_inF (σ : sg) (r i j : Int32) : Int32 := if s_gF σ (xT σ r) (xW σ r) i ≤ 0 then s_wF (s_fiS σ r i) ((s_fiS σ r i).1 18) ((s_fiS σ r i).1 19) j 4 else s_gF σ (xT σ r) (xW σ r) i
def s_inS (σ : sg) (r i j v : Int32) : sg := if s_gF σ (xT σ r) (xW σ r) i ≤ 0 then s_writeS (s_fiS σ r i) ((s_fiS σ r i).1 18) ((s_fiS σ r i).1 19) j 4 v.toInt64 else s_fiS σ r i
def a_into (σ : sg) (r i j : Int32) : Int32 := if s_no r = true then -1 else s_ans (s_inF σ r i j) 1
def t_into (σ : sg) (r i j v : Int32) : sg := if s_no r = true then σ else s_ansS (s_inS σ r i j v) (s_inF σ r i j)
def s_paF (σ : sg) (q t2 q2 k as : Int32) : Int32 := if s_rF σ 3 q k as ≤ 0 then s_wF σ t2 q2 k as else s_rF σ 3 q k as
def s_passL (q t2 q2 as : Int32) : Nat → Nat → sg → Int32 × sg
  | 0, k, σ => (nI k, σ)
  | m + 1, k, σ => if s_paF σ q t2 q2 (nI k) as ≤ 0 then s_passL q t2 q2 as m (k + 1) (s_writeS σ t2 q2 (nI k) as (xP σ q (nI k))) else (nI k, s_met1 σ (s_paF σ q t2 q2 (nI k) as))
def s_pass (σ : sg) (r to as : Int32) : Int32 × sg := if s_no r = true then (-1, σ) else if s_no to = true then (-1, σ) else if s_rng as 0 7 = true then (-2, σ) else if s_szF σ r ≤ 0 then s_passL (xW σ r) (xT σ to) (xW σ to) as (xS σ (xW σ r)).toNatClampNeg 0 σ else (s_ans (s_szF σ r) 0, s_ansS σ (s_szF σ r))
def s_fiF (σ : sg) (r : Int32) : Int32 := if s_szF σ r ≤ 0 then (if xS σ (xW σ r) = 0 then 3 else 0) else s_szF σ r
def s_bits (p : Nat → Bool) : Nat → Nat → Int32 → Int32
  | 0, _, acc => acc
  | m + 1, k, acc => s_bits p m (k + 1) (acc ||| (if p k = true then (1 : Int32) <<< (nI k &&& 31) else 0))
def s_kp (w : Bool) (of : Int32) : Nat → Bool := fun k => decide (of < 8) && (if w = true then s_goes (nI k) of else s_goes of (nI k))
def a_kinds (σ : sg) (r : Int32) (w : Bool) : Int32 := if s_no r = true then -1 else s_ans (s_fiF σ r) (if s_fiF σ r = 0 then s_bits (s_kp w (xK σ (xW σ r))) 8 0 0 else 0)
def t_kinds (σ : sg) (r : Int32) : sg := if s_no r = true then σ else s_ansS σ (s_fiF σ r)
def a_step (σ : sg) (op a i b k : Int32) : Int32 := if s_no a = true then -1 else if s_no b = true then -1 else if s_rng op 0 5 = true then -2 else if s_rng i (-1) 16 = true then -2 else if s_rng k 0 7 = true then -2 else if σ.1 12 = 12 then -4 else σ.1 12 + 1
def s_st5 (σ : sg) (p : Int32) (op a i b k : Int32) : sg := sa (sa (sa (sa (sa σ 13 p.toNatClampNeg op) 13 (p + 1).toNatClampNeg a) 13 (p + 2).toNatClampNeg i) 13 (p + 3).toNatClampNeg b) 13 (p + 4).toNatClampNeg k
def t_step (σ : sg) (op a i b k : Int32) : sg := if s_no a = true then σ else if s_no b = true then σ else if s_rng op 0 5 = true then σ else if s_rng i (-1) 16 = true then σ else if s_rng k 0 7 = true then σ else if σ.1 12 = 12 then σ else si (s_st5 σ (5 * σ.1 12) op a i b k) 12 (σ.1 12 + 1)
def xO (σ : sg) (p : Int32) : Int32 := σ.2.2.1 13 p.toNatClampNeg
/-- the gauge's four numbers back from σ0 -/
def s_back (σ σ0 : sg) : sg := si (sv (si (si σ 2 (σ0.1 2)) 3 (σ0.1 3)) σ0.2.1) 5 (σ0.1 5)
def s_moF (σ : sg) (a i b k : Int32) : Int32 := if s_gF σ (xT σ a) (xW σ a) i ≤ 0 then s_sF (s_getS σ a i) b k else s_gF σ (xT σ a) (xW σ a) i
def s_moS (σ : sg) (a i b k : Int32) : sg := if s_gF σ (xT σ a) (xW σ a) i ≤ 0 then s_back (s_setS (s_getS σ a i) b k) σ else s_back (s_getS σ a i) σ
def s_doF (σ : sg) (op a i b k : Int32) : Int32 := if op = 0 then s_gF σ (xT σ a) (xW σ a) i else if op = 1 then s_sF σ a i else if op = 2 then s_rF σ (xT σ a) (xW σ a) i k else if op = 3 then (if ¬ σ.1 2 = 1 then 0 else s_wF σ (xT σ a) (xW σ a) i k) else if op = 4 then s_wiF σ a i k else s_moF σ a i b k
def s_doS (σ : sg) (op a i b k : Int32) : sg := if op = 0 then s_getS σ a i else if op = 1 then s_setS σ a i else if op = 2 then s_readS σ (xT σ a) (xW σ a) i k else if op = 3 then (if ¬ σ.1 2 = 1 then σ else s_writeS σ (xT σ a) (xW σ a) i k σ.2.1) else if op = 4 then s_wiS σ a i k else s_moS σ a i b k
def s_stF (σ : sg) (p : Int32) : Int32 := s_doF σ (xO σ p) (xO σ (p + 1)) (xO σ (p + 2)) (xO σ (p + 3)) (xO σ (p + 4))
def s_stS (σ : sg) (p : Int32) : sg := s_doS σ (xO σ p) (xO σ (p + 1)) (xO σ (p + 2)) (xO σ (p + 3)) (xO σ (p + 4))
/-- one step done: its fault noted, 'done' grown -/
def s_r1 (σ : sg) : sg := si (sa (s_stS σ (5 * σ.1 14)) 15 ((s_stS σ (5 * σ.1 14)).1 14).toNatClampNeg (s_stF σ (5 * σ.1 14))) 14 ((s_stS σ (5 * σ.1 14)).1 14 + 1)
def s_runL (stops : Bool) : Nat → Int32 → sg → Int32 × sg
  | 0, good, σ => (good, σ)
  | m + 1, good, σ => if s_stF σ (5 * σ.1 14) ≤ 0 then s_runL stops m (good + (if s_stF σ (5 * σ.1 14) = 0 then 1 else 0)) (s_r1 σ) else if stops = true then (good + 0, s_met1 (s_r1 σ) (s_stF σ (5 * σ.1 14))) else s_runL stops m (good + 0) (s_met1 (s_r1 σ) (s_stF σ (5 * σ.1 14)))
def s_run (σ : sg) (stops : Bool) : Int32 × sg := s_runL stops (σ.1 12).toNatClampNeg 0 (si σ 14 0)
def a_met (σ : sg) (k : Int32) : Int32 := if s_rng k 0 (σ.1 14 - 1) = true then -9 else σ.2.2.1 15 k.toNatClampNeg
def t_clear (σ : sg) : sg := si (si σ 12 0) 14 0
def a_faults (σ : sg) (k : Int32) : Int32 := if s_rng k 0 3 = true then -9 else σ.2.2.1 17 k.toNatClampNeg
def a_told (σ : sg) (r : Int32) : Int32 := if s_no r = true then -1 else if xT σ r = 0 then -9 else if xT σ r = 3 then xK σ (xW σ r) else if xF σ (xW σ r) = 0 then 11 else 12
def s_sm (σ : sg) (r : Int32) (k : Nat) : Bool := decide (0 < xT σ r ∧ σ.2.2.1 0 k = xT σ r ∧ σ.2.2.1 1 k = xW σ r)
def s_cnt (p : Nat → Bool) : Nat → Nat → Int32 → Int32
  | 0, _, acc => acc
  | m + 1, k, acc => s_cnt p m (k + 1) (acc + (if p k = true then 1 else 0))
def a_same (σ : sg) (r : Int32) : Int32 := if s_no r = true then -1 else s_cnt (s_sm σ r) 10 0 0
def okk (σ : sg) : Prop := (∀ r, vp_in r 10 → xT σ r = 3 → rk σ (xW σ r)) ∧ (σ.1 2 = 2 → vp_in (σ.1 5) 41) ∧ (σ.1 2 ≠ 0 → σ.1 2 ≠ 1 → σ.1 2 ≠ 3 → vp_in (σ.1 5) 41) ∧ (σ.1 2 ≠ 0 → σ.1 2 ≠ 1 → σ.1 2 ≠ 2 → vp_in (σ.1 5) 5000)
def okG (σ : sg) : Prop := okk σ ∧ (∀ r i, vp_in r 10 → okk (s_getS σ r i)) ∧ (∀ r i, vp_in r 10 → (s_fiS σ r i).1 18 = 3 → rk (s_fiS σ r i) ((s_fiS σ r i).1 19))
theorem in4_0 : vp_in 0 4 := by unfold vp_in; decide
theorem in4_1 : vp_in 1 4 := by unfold vp_in; decide
theorem in4_2 : vp_in 2 4 := by unfold vp_in; decide
theorem in4_3 : vp_in 3 4 := by unfold vp_in; decide
theorem in4_if {c : Prop} {_ : Decidable c} {a b : Int32} (ha : vp_in a 4) (hb : vp_in b 4) : vp_in (if c then a else b) 4 := by split <;> assumption
theorem gF_in (σ : sg) (t q i : Int32) : vp_in (s_gF σ t q i) 4 := in4_if in4_1 (in4_if in4_2 (in4_if in4_3 in4_0))
theorem rF_in (σ : sg) (t q i to : Int32) : vp_in (s_rF σ t q i to) 4 := in4_if in4_1 (in4_if in4_2 (in4_if in4_2 (in4_if in4_3 (in4_if in4_0 in4_2))))
theorem wF_in (σ : sg) (t q i to : Int32) : vp_in (s_wF σ t q i to) 4 := in4_if in4_1 (in4_if in4_2 (in4_if in4_2 (in4_if in4_3 (in4_if in4_0 in4_2))))
theorem sF_in (σ : sg) (r i : Int32) : vp_in (s_sF σ r i) 4 := in4_if (in4_if in4_1 in4_2) (in4_if in4_2 (in4_if in4_3 (in4_if in4_2 in4_0)))
theorem szF_in (σ : sg) (r : Int32) : vp_in (s_szF σ r) 4 := in4_if in4_1 (in4_if in4_2 in4_0)
theorem wiF_in (σ : sg) (r i j : Int32) : vp_in (s_wiF σ r i j) 4 := in4_if (gF_in _ _ _ _) (rF_in _ _ _ _ _)
theorem inF_in (σ : sg) (r i j : Int32) : vp_in (s_inF σ r i j) 4 := in4_if (wF_in _ _ _ _ _) (gF_in _ _ _ _)
theorem paF_in (σ : sg) (q t2 q2 k as : Int32) : vp_in (s_paF σ q t2 q2 k as) 4 := in4_if (wF_in _ _ _ _ _) (rF_in _ _ _ _ _)
theorem fiF_in (σ : sg) (r : Int32) : vp_in (s_fiF σ r) 4 := in4_if (in4_if in4_3 in4_0) (szF_in _ _)
theorem moF_in (σ : sg) (a i b k : Int32) : vp_in (s_moF σ a i b k) 4 := in4_if (sF_in _ _ _) (gF_in _ _ _ _)
theorem doF_in (σ : sg) (op a i b k : Int32) : vp_in (s_doF σ op a i b k) 4 := in4_if (gF_in _ _ _ _) (in4_if (sF_in _ _ _) (in4_if (rF_in _ _ _ _ _) (in4_if (in4_if in4_0 (wF_in _ _ _ _ _)) (in4_if (wiF_in _ _ _ _) (moF_in _ _ _ _ _)))))
theorem getS_a (σ : sg) (r i : Int32) : (s_getS σ r i).2.2.1 = σ.2.2.1 := by
  unfold s_getS; split
  · unfold s_gets; split <;> rfl
  · rfl
theorem fiS_a (σ : sg) (r i : Int32) : (s_fiS σ r i).2.2.1 = σ.2.2.1 := by
  unfold s_fiS; split <;> rfl
theorem rng3_in {k : Int32} (h : s_rng k 0 3 = false) : vp_in k 4 := by
  rw [vp_in_iff]
  unfold s_rng at h
  simp only [decide_eq_false_iff_not, not_or, Int32.not_lt, Int32.le_iff_toInt_le] at h
  have h1 : (0 : Int32).toInt = 0 := by decide
  have h2 : (3 : Int32).toInt = 3 := by decide
  omega
end
section
theorem ok_r {σ : sg} (ho : okG σ) {r : Int32} (hr : vp_in r 10) (h3 : xT σ r = 3) : rk σ (xW σ r) := ho.1.1 r hr h3
set_option maxRecDepth 20000 in
set_option maxHeartbeats 1000000 in
theorem cM_hang {G : zh_G} {l : Launch} {g : Nat → va_E} {nn : Nat} {σ : sg} (hn : zg_B G + 28 ≤ nn) {r : Int32} : zc G l yX8_hang cX8_hang 2 (some .int) 2 [.ref (zg_B G + 18), .int r] (ms G g σ, nn) 0 0 (fun o h' => o = some (.int (a_hang σ r)) ∧ h' = (ms G g (t_hang σ r), nn)) := by
  refine zc.of (by decide) (Nat.le_of_ble_eq_true rfl) ?_
  refine zv_iload_n dX8_hang_0 rfl ?_
  refine zv_callSq (mc := 0) (ms := 0) zm_X8_57 zkyX8_no cM_no rfl rfl (Nat.le_of_ble_eq_true rfl) (by decide) dX8_hang_1 ?_
  refine zv_if_eq (tgt := 9) dX8_hang_4 (by decide) (fun c4 => ?_) (fun c4 => ?_)
  · skip
    refine zv_aload_n dX8_hang_9 rfl ?_
    refine zM_get hn zf_X8_69_6 rfl dX8_hang_10 ?_
    refine zv_iconstv (v := 2) dX8_hang_13 (by decide) ?_
    refine zv_icmp_ge (tgt := 20) dX8_hang_14 (by decide) (fun c14 => ?_) (fun c14 => ?_)
    · skip
      refine zv_aload_n dX8_hang_20 rfl ?_
      refine zM_get hn zf_X8_7_6 rfl dX8_hang_21 ?_
      refine zv_iload_n dX8_hang_24 rfl ?_
      refine zv_aload_n dX8_hang_25 rfl ?_
      refine zM_get hn zf_X8_69_6 rfl dX8_hang_26 ?_
      refine zM_ast0 hn (no_in (zb_0.mp (by assumption))) dX8_hang_29 ?_
      refine zv_aload_n dX8_hang_30 rfl ?_
      refine zM_get hn zf_X8_13_6 rfl dX8_hang_31 ?_
      refine zv_iload_n dX8_hang_34 rfl ?_
      refine zv_aload_n dX8_hang_35 rfl ?_
      refine zM_get hn zf_X8_72_6 rfl dX8_hang_36 ?_
      refine zM_ast1 hn (no_in (zb_0.mp (by assumption))) dX8_hang_39 ?_
      refine zv_iconstv (v := 1) dX8_hang_40 (by decide) ?_
      exact zv_ireturn dX8_hang_41 rfl (by refine ⟨?_, ?_⟩ <;> simp_all [-Int32.not_lt, -Int32.not_le, ← Int32.not_lt, xT, xW, xK, xS, xF, xP, zb_0, zb_n, out_bey, bey_9, bey_10, bey_16, bey_7, bey_4, bey_5, bey_3, bey_m, bey_e, a_hang, t_hang, sa])
    · skip
      refine zv_bipushv (v := (-3)) dX8_hang_17 (by decide) ?_
      exact zv_ireturn dX8_hang_19 rfl (by refine ⟨?_, ?_⟩ <;> simp_all [-Int32.not_lt, -Int32.not_le, ← Int32.not_lt, xT, xW, xK, xS, xF, xP, zb_0, zb_n, out_bey, bey_9, bey_10, bey_16, bey_7, bey_4, bey_5, bey_3, bey_m, bey_e, a_hang, t_hang, sa])
  · skip
    refine zv_iconstv (v := (-1)) dX8_hang_7 (by decide) ?_
    exact zv_ireturn dX8_hang_8 rfl (by refine ⟨?_, ?_⟩ <;> simp_all [-Int32.not_lt, -Int32.not_le, ← Int32.not_lt, xT, xW, xK, xS, xF, xP, zb_0, zb_n, out_bey, bey_9, bey_10, bey_16, bey_7, bey_4, bey_5, bey_3, bey_m, bey_e, a_hang, t_hang, sa])
set_option maxRecDepth 20000 in
set_option maxHeartbeats 1000000 in
theorem cM_share {G : zh_G} {l : Launch} {g : Nat → va_E} {nn : Nat} {σ : sg} (hn : zg_B G + 28 ≤ nn) {r f : Int32} : zc G l yX8_share cX8_share 3 (some .int) 2 [.ref (zg_B G + 18), .int r, .int f] (ms G g σ, nn) 0 0 (fun o h' => o = some (.int (a_share r f)) ∧ h' = (ms G g (t_share σ r f), nn)) := by
  refine zc.of (by decide) (Nat.le_of_ble_eq_true rfl) ?_
  refine zv_iload_n dX8_share_0 rfl ?_
  refine zv_callSq (mc := 0) (ms := 0) zm_X8_57 zkyX8_no cM_no rfl rfl (Nat.le_of_ble_eq_true rfl) (by decide) dX8_share_1 ?_
  refine zv_if_ne (tgt := 14) dX8_share_4 (by decide) (fun c4 => ?_) (fun c4 => ?_)
  · skip
    refine zv_iconstv (v := (-1)) dX8_share_14 (by decide) ?_
    exact zv_ireturn dX8_share_15 rfl (by refine ⟨?_, ?_⟩ <;> simp_all [-Int32.not_lt, -Int32.not_le, ← Int32.not_lt, xT, xW, xK, xS, xF, xP, zb_0, zb_n, out_bey, bey_9, bey_10, bey_16, bey_7, bey_4, bey_5, bey_3, bey_m, bey_e, a_share, t_share, sa, va_up])
  · skip
    refine zv_iload_n dX8_share_7 rfl ?_
    refine zv_callSq (mc := 0) (ms := 0) zm_X8_57 zkyX8_no cM_no rfl rfl (Nat.le_of_ble_eq_true rfl) (by decide) dX8_share_8 ?_
    refine zv_if_eq (tgt := 16) dX8_share_11 (by decide) (fun c11 => ?_) (fun c11 => ?_)
    · skip
      refine zv_aload_n dX8_share_16 rfl ?_
      refine zM_get hn zf_X8_7_6 rfl dX8_share_17 ?_
      refine zv_iload_n dX8_share_20 rfl ?_
      refine zv_aload_n dX8_share_21 rfl ?_
      refine zM_get hn zf_X8_7_6 rfl dX8_share_22 ?_
      refine zv_iload_n dX8_share_25 rfl ?_
      refine zM_ald0 hn (no_in (zb_0.mp (by assumption))) dX8_share_26 ?_
      refine zM_ast0 hn (no_in (zb_0.mp (by assumption))) dX8_share_27 ?_
      refine zv_aload_n dX8_share_28 rfl ?_
      refine zM_get hn zf_X8_13_6 rfl dX8_share_29 ?_
      refine zv_iload_n dX8_share_32 rfl ?_
      refine zv_aload_n dX8_share_33 rfl ?_
      refine zM_get hn zf_X8_13_6 rfl dX8_share_34 ?_
      refine zv_iload_n dX8_share_37 rfl ?_
      refine zM_ald1 hn (no_in (zb_0.mp (by assumption))) dX8_share_38 ?_
      refine zM_ast1 hn (no_in (zb_0.mp (by assumption))) dX8_share_39 ?_
      refine zv_iconstv (v := 1) dX8_share_40 (by decide) ?_
      exact zv_ireturn dX8_share_41 rfl (by refine ⟨?_, ?_⟩ <;> simp_all [-Int32.not_lt, -Int32.not_le, ← Int32.not_lt, xT, xW, xK, xS, xF, xP, zb_0, zb_n, out_bey, bey_9, bey_10, bey_16, bey_7, bey_4, bey_5, bey_3, bey_m, bey_e, a_share, t_share, sa, va_up])
    · skip
      refine zv_iconstv (v := (-1)) dX8_share_14 (by decide) ?_
      exact zv_ireturn dX8_share_15 rfl (by refine ⟨?_, ?_⟩ <;> simp_all [-Int32.not_lt, -Int32.not_le, ← Int32.not_lt, xT, xW, xK, xS, xF, xP, zb_0, zb_n, out_bey, bey_9, bey_10, bey_16, bey_7, bey_4, bey_5, bey_3, bey_m, bey_e, a_share, t_share, sa, va_up])
set_option maxRecDepth 20000 in
set_option maxHeartbeats 1000000 in
theorem cM_empty {G : zh_G} {l : Launch} {g : Nat → va_E} {nn : Nat} {σ : sg} (hn : zg_B G + 28 ≤ nn) {r : Int32} : zc G l yX8_empty cX8_empty 2 (some .int) 2 [.ref (zg_B G + 18), .int r] (ms G g σ, nn) 0 0 (fun o h' => o = some (.int (a_empty r)) ∧ h' = (ms G g (t_empty σ r), nn)) := by
  refine zc.of (by decide) (Nat.le_of_ble_eq_true rfl) ?_
  refine zv_iload_n dX8_empty_0 rfl ?_
  refine zv_callSq (mc := 0) (ms := 0) zm_X8_57 zkyX8_no cM_no rfl rfl (Nat.le_of_ble_eq_true rfl) (by decide) dX8_empty_1 ?_
  refine zv_if_eq (tgt := 9) dX8_empty_4 (by decide) (fun c4 => ?_) (fun c4 => ?_)
  · skip
    refine zv_aload_n dX8_empty_9 rfl ?_
    refine zM_get hn zf_X8_7_6 rfl dX8_empty_10 ?_
    refine zv_iload_n dX8_empty_13 rfl ?_
    refine zv_iconstv (v := 0) dX8_empty_14 (by decide) ?_
    refine zM_ast0 hn (no_in (zb_0.mp (by assumption))) dX8_empty_15 ?_
    refine zv_iconstv (v := 1) dX8_empty_16 (by decide) ?_
    exact zv_ireturn dX8_empty_17 rfl (by refine ⟨?_, ?_⟩ <;> simp_all [-Int32.not_lt, -Int32.not_le, ← Int32.not_lt, xT, xW, xK, xS, xF, xP, zb_0, zb_n, out_bey, bey_9, bey_10, bey_16, bey_7, bey_4, bey_5, bey_3, bey_m, bey_e, a_empty, t_empty])
  · skip
    refine zv_iconstv (v := (-1)) dX8_empty_7 (by decide) ?_
    exact zv_ireturn dX8_empty_8 rfl (by refine ⟨?_, ?_⟩ <;> simp_all [-Int32.not_lt, -Int32.not_le, ← Int32.not_lt, xT, xW, xK, xS, xF, xP, zb_0, zb_n, out_bey, bey_9, bey_10, bey_16, bey_7, bey_4, bey_5, bey_3, bey_m, bey_e, a_empty, t_empty])
set_option maxRecDepth 20000 in
set_option maxHeartbeats 1000000 in
theorem cM_gauge {G : zh_G} {l : Launch} {g : Nat → va_E} {nn : Nat} {σ : sg} (hn : zg_B G + 28 ≤ nn) {k : Int32} {v : Int64} : zc G l yX8_gauge cX8_gauge 4 (some .int) 1 [.ref (zg_B G + 18), .int k, .long v] (ms G g σ, nn) 0 0 (fun o h' => o = some (.int (a_gauge k)) ∧ h' = (ms G g (t_gauge σ k v), nn)) := by
  refine zc.of (by decide) (Nat.le_of_ble_eq_true rfl) ?_
  refine zv_iload_n dX8_gauge_0 rfl ?_
  refine zv_i2l dX8_gauge_1 ?_
  refine zv_lconstv (v := 0) dX8_gauge_2 (by decide) ?_
  refine zv_ldc2 dX8_gauge_3 zq_X8_82 ?_
  refine zv_callSq (mc := 0) (ms := 0) zm_X8_42 zkyX8_beyond cM_beyond rfl rfl (Nat.le_of_ble_eq_true rfl) (by decide) dX8_gauge_6 ?_
  refine zv_if_eq (tgt := 15) dX8_gauge_9 (by decide) (fun c9 => ?_) (fun c9 => ?_)
  · skip
    refine zv_aload_n dX8_gauge_15 rfl ?_
    refine zv_iload_n dX8_gauge_16 rfl ?_
    refine zv_iload_n dX8_gauge_17 rfl ?_
    refine zv_lload_n dX8_gauge_18 rfl ?_
    refine zv_callSq (mc := 0) (ms := 0) zm_X8_84 zkyX8_as cM_as rfl rfl (Nat.le_of_ble_eq_true rfl) (by decide) dX8_gauge_19 ?_
    refine zM_call hn zm_X8_88 zkyX8_hold rfl (cM_hold hn) rfl rfl (Nat.le_of_ble_eq_true rfl) (by decide) dX8_gauge_22 ?_
    refine zv_iconstv (v := 1) dX8_gauge_25 (by decide) ?_
    exact zv_ireturn dX8_gauge_26 rfl (by refine ⟨?_, ?_⟩ <;> simp_all [-Int32.not_lt, -Int32.not_le, ← Int32.not_lt, xT, xW, xK, xS, xF, xP, zb_0, zb_n, out_bey, bey_9, bey_10, bey_16, bey_7, bey_4, bey_5, bey_3, bey_m, bey_e, a_gauge, t_gauge])
  · skip
    refine zv_bipushv (v := (-2)) dX8_gauge_12 (by decide) ?_
    exact zv_ireturn dX8_gauge_14 rfl (by refine ⟨?_, ?_⟩ <;> simp_all [-Int32.not_lt, -Int32.not_le, ← Int32.not_lt, xT, xW, xK, xS, xF, xP, zb_0, zb_n, out_bey, bey_9, bey_10, bey_16, bey_7, bey_4, bey_5, bey_3, bey_m, bey_e, a_gauge, t_gauge])
set_option maxRecDepth 20000 in
set_option maxHeartbeats 1000000 in
theorem cM_none {G : zh_G} {l : Launch} {g : Nat → va_E} {nn : Nat} {σ : sg} (hn : zg_B G + 28 ≤ nn)  : zc G l yX8_none cX8_none 1 (some .int) 0 [.ref (zg_B G + 18)] (ms G g σ, nn) 0 0 (fun o h' => o = some (.int 1) ∧ h' = (ms G g (t_none σ), nn)) := by
  refine zc.of (by decide) (Nat.le_of_ble_eq_true rfl) ?_
  refine zv_aload_n dX8_none_0 rfl ?_
  refine zv_iconstv (v := 0) dX8_none_1 (by decide) ?_
  refine zM_put2 hn zfw_X8_69_6 dX8_none_2 ?_
  refine zv_iconstv (v := 1) dX8_none_5 (by decide) ?_
  exact zv_ireturn dX8_none_6 rfl (by refine ⟨?_, ?_⟩ <;> simp_all [-Int32.not_lt, -Int32.not_le, ← Int32.not_lt, xT, xW, xK, xS, xF, xP, zb_0, zb_n, out_bey, bey_9, bey_10, bey_16, bey_7, bey_4, bey_5, bey_3, bey_m, bey_e, t_none])
set_option maxRecDepth 20000 in
set_option maxHeartbeats 1000000 in
theorem cM_probe {G : zh_G} {l : Launch} {g : Nat → va_E} {nn : Nat} {σ : sg} (hn : zg_B G + 28 ≤ nn) {b : Int32} (hb : narrow .boolean (.int b) = .int b) (hp : ¬ σ.1 6 = 40 → vp_in (σ.1 6 + 1) 41) : zc G l yX8_probe cX8_probe 2 (some .int) 0 [.ref (zg_B G + 18), .int b] (ms G g σ, nn) 0 0 (fun o h' => o = some (.int (a_probe σ)) ∧ h' = (ms G g (t_probe σ b), nn)) := by
  refine zc.of (by decide) (Nat.le_of_ble_eq_true rfl) ?_
  refine zv_aload_n dX8_probe_0 rfl ?_
  refine zM_get hn zf_X8_92_6 rfl dX8_probe_1 ?_
  refine zv_bipushv (v := 40) dX8_probe_4 (by decide) ?_
  refine zv_icmp_ne (tgt := 12) dX8_probe_6 (by decide) (fun c6 => ?_) (fun c6 => ?_)
  · skip
    refine zv_aload_n dX8_probe_12 rfl ?_
    refine zv_dup dX8_probe_13 rfl ?_
    refine zM_get hn zf_X8_92_6 rfl dX8_probe_14 ?_
    refine zv_iconstv (v := 1) dX8_probe_17 (by decide) ?_
    refine zv_iadd dX8_probe_18 ?_
    refine zM_put6 hn zfw_X8_92_6 dX8_probe_19 ?_
    refine zv_aload_n dX8_probe_22 rfl ?_
    refine zM_get hn zf_X8_16_6 rfl dX8_probe_23 ?_
    refine zv_aload_n dX8_probe_26 rfl ?_
    refine zM_get hn zf_X8_92_6 rfl dX8_probe_27 ?_
    refine zv_iload_n dX8_probe_30 rfl ?_
    refine zM_ast7 hn (hp (by assumption)) (hb) dX8_probe_31 ?_
    refine zv_aload_n dX8_probe_32 rfl ?_
    refine zv_iconstv (v := 2) dX8_probe_33 (by decide) ?_
    refine zM_put2 hn zfw_X8_69_6 dX8_probe_34 ?_
    refine zv_aload_n dX8_probe_37 rfl ?_
    refine zv_aload_n dX8_probe_38 rfl ?_
    refine zM_get hn zf_X8_92_6 rfl dX8_probe_39 ?_
    refine zM_put5 hn zfw_X8_72_6 dX8_probe_42 ?_
    refine zv_aload_n dX8_probe_45 rfl ?_
    refine zM_get hn zf_X8_92_6 rfl dX8_probe_46 ?_
    exact zv_ireturn dX8_probe_49 rfl (by refine ⟨?_, ?_⟩ <;> simp_all [-Int32.not_lt, -Int32.not_le, ← Int32.not_lt, xT, xW, xK, xS, xF, xP, zb_0, zb_n, out_bey, bey_9, bey_10, bey_16, bey_7, bey_4, bey_5, bey_3, bey_m, bey_e, a_probe, t_probe, si, sa, upd])
  · skip
    refine zv_bipushv (v := (-4)) dX8_probe_9 (by decide) ?_
    exact zv_ireturn dX8_probe_11 rfl (by refine ⟨?_, ?_⟩ <;> simp_all [-Int32.not_lt, -Int32.not_le, ← Int32.not_lt, xT, xW, xK, xS, xF, xP, zb_0, zb_n, out_bey, bey_9, bey_10, bey_16, bey_7, bey_4, bey_5, bey_3, bey_m, bey_e, a_probe, t_probe, si, sa, upd])
set_option maxRecDepth 20000 in
set_option maxHeartbeats 1000000 in
theorem cM_get {G : zh_G} {l : Launch} {g : Nat → va_E} {nn : Nat} {σ : sg} (hn : zg_B G + 28 ≤ nn) {r i : Int32} (ho : okG σ) : zc G l yX8_get cX8_get 4 (some .int) 3 [.ref (zg_B G + 18), .int r, .int i] (ms G g σ, nn) 0 0 (fun o h' => o = some (.int (a_get σ r i)) ∧ h' = (ms G g (t_get σ r i), nn)) := by
  refine zc.of (by decide) (Nat.le_of_ble_eq_true rfl) ?_
  refine zv_iload_n dX8_get_0 rfl ?_
  refine zv_callSq (mc := 0) (ms := 0) zm_X8_57 zkyX8_no cM_no rfl rfl (Nat.le_of_ble_eq_true rfl) (by decide) dX8_get_1 ?_
  refine zv_if_eq (tgt := 9) dX8_get_4 (by decide) (fun c4 => ?_) (fun c4 => ?_)
  · skip
    refine zv_aload_n dX8_get_9 rfl ?_
    refine zv_iload_n dX8_get_10 rfl ?_
    refine zv_iload_n dX8_get_11 rfl ?_
    refine zM_callg hn zm_X8_115 zkyX8_doGet rfl (cM_doGet hn (no_in (zb_0.mp (by assumption))) (ho.1.1 _ (no_in (zb_0.mp (by assumption))))) rfl rfl (Nat.le_of_ble_eq_true rfl) (by decide) dX8_get_12 (fun σ12 e12 => ?_)
    refine zv_istore_n dX8_get_15 (by decide) ?_
    refine zv_aload_n dX8_get_16 rfl ?_
    refine zv_iload_n dX8_get_17 rfl ?_
    refine zv_aload_n dX8_get_18 rfl ?_
    refine zM_call hn zm_X8_118 zkyX8_has rfl (cM_has hn (by subst e12; exact (ho.2.1 _ _ (no_in (zb_0.mp (by assumption)))).2.2.1)) rfl rfl (Nat.le_of_ble_eq_true rfl) (by decide) dX8_get_19 ?_
    refine zM_call hn zm_X8_121 zkyX8_answer rfl (cM_answer hn (fun _ => gF_in _ _ _ _)) rfl rfl (Nat.le_of_ble_eq_true rfl) (by decide) dX8_get_22 ?_
    exact zv_ireturn dX8_get_25 rfl (by refine ⟨?_, ?_⟩ <;> simp_all [-Int32.not_lt, -Int32.not_le, ← Int32.not_lt, xT, xW, xK, xS, xF, xP, zb_0, zb_n, out_bey, bey_9, bey_10, bey_16, bey_7, bey_4, bey_5, bey_3, bey_m, bey_e, a_get, t_get])
  · skip
    refine zv_iconstv (v := (-1)) dX8_get_7 (by decide) ?_
    exact zv_ireturn dX8_get_8 rfl (by refine ⟨?_, ?_⟩ <;> simp_all [-Int32.not_lt, -Int32.not_le, ← Int32.not_lt, xT, xW, xK, xS, xF, xP, zb_0, zb_n, out_bey, bey_9, bey_10, bey_16, bey_7, bey_4, bey_5, bey_3, bey_m, bey_e, a_get, t_get])
set_option maxRecDepth 20000 in
set_option maxHeartbeats 1000000 in
theorem cM_set {G : zh_G} {l : Launch} {g : Nat → va_E} {nn : Nat} {σ : sg} (hn : zg_B G + 28 ≤ nn) {r i : Int32} (ho : okG σ) : zc G l yX8_set cX8_set 3 (some .int) 4 [.ref (zg_B G + 18), .int r, .int i] (ms G g σ, nn) 0 0 (fun o h' => o = some (.int (a_set σ r i)) ∧ h' = (ms G g (t_sett σ r i), nn)) := by
  refine zc.of (by decide) (Nat.le_of_ble_eq_true rfl) ?_
  refine zv_iload_n dX8_set_0 rfl ?_
  refine zv_callSq (mc := 0) (ms := 0) zm_X8_57 zkyX8_no cM_no rfl rfl (Nat.le_of_ble_eq_true rfl) (by decide) dX8_set_1 ?_
  refine zv_if_eq (tgt := 11) dX8_set_4 (by decide) (fun c4 => ?_) (fun c4 => ?_)
  · skip
    refine zv_aload_n dX8_set_11 rfl ?_
    refine zv_aload_n dX8_set_12 rfl ?_
    refine zv_iload_n dX8_set_13 rfl ?_
    refine zv_iload_n dX8_set_14 rfl ?_
    refine zM_callg hn zm_X8_127 zkyX8_doSet rfl (cM_doSet hn (no_in (zb_0.mp (by assumption))) (ho.1.1 _ (no_in (zb_0.mp (by assumption)))) ho.1.2.1) rfl rfl (Nat.le_of_ble_eq_true rfl) (by decide) dX8_set_15 (fun σ15 e15 => ?_)
    refine zv_iconstv (v := 1) dX8_set_18 (by decide) ?_
    refine zM_call hn zm_X8_121 zkyX8_answer rfl (cM_answer hn (fun _ => sF_in _ _ _)) rfl rfl (Nat.le_of_ble_eq_true rfl) (by decide) dX8_set_19 ?_
    exact zv_ireturn dX8_set_22 rfl (by refine ⟨?_, ?_⟩ <;> simp_all [-Int32.not_lt, -Int32.not_le, ← Int32.not_lt, xT, xW, xK, xS, xF, xP, zb_0, zb_n, out_bey, bey_9, bey_10, bey_16, bey_7, bey_4, bey_5, bey_3, bey_m, bey_e, a_set, t_sett])
  · skip
    refine zv_iconstv (v := (-1)) dX8_set_7 (by decide) ?_
    refine zv_goto (tgt := 22) dX8_set_8 (by decide) ?_
    exact zv_ireturn dX8_set_22 rfl (by refine ⟨?_, ?_⟩ <;> simp_all [-Int32.not_lt, -Int32.not_le, ← Int32.not_lt, xT, xW, xK, xS, xF, xP, zb_0, zb_n, out_bey, bey_9, bey_10, bey_16, bey_7, bey_4, bey_5, bey_3, bey_m, bey_e, a_set, t_sett])
set_option maxRecDepth 20000 in
set_option maxHeartbeats 1000000 in
theorem cM_read {G : zh_G} {l : Launch} {g : Nat → va_E} {nn : Nat} {σ : sg} (hn : zg_B G + 28 ≤ nn) {r i to : Int32} (ho : okG σ) : zc G l yX8_read cX8_read 4 (some .int) 3 [.ref (zg_B G + 18), .int r, .int i, .int to] (ms G g σ, nn) 0 0 (fun o h' => o = some (.int (a_read σ r i to)) ∧ h' = (ms G g (t_read σ r i to), nn)) := by
  refine zc.of (by decide) (Nat.le_of_ble_eq_true rfl) ?_
  refine zv_iload_n dX8_read_0 rfl ?_
  refine zv_callSq (mc := 0) (ms := 0) zm_X8_57 zkyX8_no cM_no rfl rfl (Nat.le_of_ble_eq_true rfl) (by decide) dX8_read_1 ?_
  refine zv_if_eq (tgt := 9) dX8_read_4 (by decide) (fun c4 => ?_) (fun c4 => ?_)
  · skip
    refine zv_iload_n dX8_read_9 rfl ?_
    refine zv_i2l dX8_read_10 ?_
    refine zv_lconstv (v := 0) dX8_read_11 (by decide) ?_
    refine zv_ldc2 dX8_read_12 zq_X8_82 ?_
    refine zv_callSq (mc := 0) (ms := 0) zm_X8_42 zkyX8_beyond cM_beyond rfl rfl (Nat.le_of_ble_eq_true rfl) (by decide) dX8_read_15 ?_
    refine zv_if_eq (tgt := 26) dX8_read_18 (by decide) (fun c18 => ?_) (fun c18 => ?_)
    · skip
      refine zv_aload_n dX8_read_26 rfl ?_
      refine zv_aload_n dX8_read_27 rfl ?_
      refine zv_aload_n dX8_read_28 rfl ?_
      refine zM_get hn zf_X8_7_6 rfl dX8_read_29 ?_
      refine zv_iload_n dX8_read_32 rfl ?_
      refine zM_ald0 hn (no_in (zb_0.mp (by assumption))) dX8_read_33 ?_
      refine zv_aload_n dX8_read_34 rfl ?_
      refine zM_get hn zf_X8_13_6 rfl dX8_read_35 ?_
      refine zv_iload_n dX8_read_38 rfl ?_
      refine zM_ald1 hn (no_in (zb_0.mp (by assumption))) dX8_read_39 ?_
      refine zv_iload_n dX8_read_40 rfl ?_
      refine zv_iload_n dX8_read_41 rfl ?_
      refine zM_callg hn zm_X8_134 zkyX8_doRead rfl (cM_doRead hn (ho.1.1 _ (no_in (zb_0.mp (by assumption))))) rfl rfl (Nat.le_of_ble_eq_true rfl) (by decide) dX8_read_42 (fun σ42 e42 => ?_)
      refine zv_iconstv (v := 1) dX8_read_45 (by decide) ?_
      refine zM_call hn zm_X8_121 zkyX8_answer rfl (cM_answer hn (fun _ => rF_in _ _ _ _ _)) rfl rfl (Nat.le_of_ble_eq_true rfl) (by decide) dX8_read_46 ?_
      exact zv_ireturn dX8_read_49 rfl (by refine ⟨?_, ?_⟩ <;> simp_all [-Int32.not_lt, -Int32.not_le, ← Int32.not_lt, xT, xW, xK, xS, xF, xP, zb_0, zb_n, out_bey, bey_9, bey_10, bey_16, bey_7, bey_4, bey_5, bey_3, bey_m, bey_e, a_read, t_read])
    · skip
      refine zv_bipushv (v := (-2)) dX8_read_21 (by decide) ?_
      refine zv_goto (tgt := 49) dX8_read_23 (by decide) ?_
      exact zv_ireturn dX8_read_49 rfl (by refine ⟨?_, ?_⟩ <;> simp_all [-Int32.not_lt, -Int32.not_le, ← Int32.not_lt, xT, xW, xK, xS, xF, xP, zb_0, zb_n, out_bey, bey_9, bey_10, bey_16, bey_7, bey_4, bey_5, bey_3, bey_m, bey_e, a_read, t_read])
  · skip
    refine zv_iconstv (v := (-1)) dX8_read_7 (by decide) ?_
    exact zv_ireturn dX8_read_8 rfl (by refine ⟨?_, ?_⟩ <;> simp_all [-Int32.not_lt, -Int32.not_le, ← Int32.not_lt, xT, xW, xK, xS, xF, xP, zb_0, zb_n, out_bey, bey_9, bey_10, bey_16, bey_7, bey_4, bey_5, bey_3, bey_m, bey_e, a_read, t_read])
set_option maxRecDepth 20000 in
set_option maxHeartbeats 1000000 in
theorem cM_write {G : zh_G} {l : Launch} {g : Nat → va_E} {nn : Nat} {σ : sg} (hn : zg_B G + 28 ≤ nn) {r i of : Int32} (ho : okG σ) : zc G l yX8_write cX8_write 4 (some .int) 3 [.ref (zg_B G + 18), .int r, .int i, .int of] (ms G g σ, nn) 0 0 (fun o h' => o = some (.int (a_write σ r i of)) ∧ h' = (ms G g (t_write σ r i of), nn)) := by
  refine zc.of (by decide) (Nat.le_of_ble_eq_true rfl) ?_
  refine zv_iload_n dX8_write_0 rfl ?_
  refine zv_callSq (mc := 0) (ms := 0) zm_X8_57 zkyX8_no cM_no rfl rfl (Nat.le_of_ble_eq_true rfl) (by decide) dX8_write_1 ?_
  refine zv_if_eq (tgt := 9) dX8_write_4 (by decide) (fun c4 => ?_) (fun c4 => ?_)
  · skip
    refine zv_iload_n dX8_write_9 rfl ?_
    refine zv_i2l dX8_write_10 ?_
    refine zv_lconstv (v := 0) dX8_write_11 (by decide) ?_
    refine zv_ldc2 dX8_write_12 zq_X8_82 ?_
    refine zv_callSq (mc := 0) (ms := 0) zm_X8_42 zkyX8_beyond cM_beyond rfl rfl (Nat.le_of_ble_eq_true rfl) (by decide) dX8_write_15 ?_
    refine zv_if_eq (tgt := 24) dX8_write_18 (by decide) (fun c18 => ?_) (fun c18 => ?_)
    · skip
      refine zv_aload_n dX8_write_24 rfl ?_
      refine zM_get hn zf_X8_69_6 rfl dX8_write_25 ?_
      refine zv_iconstv (v := 1) dX8_write_28 (by decide) ?_
      refine zv_icmp_eq (tgt := 37) dX8_write_29 (by decide) (fun c29 => ?_) (fun c29 => ?_)
      · skip
        refine zv_aload_n dX8_write_37 rfl ?_
        refine zv_aload_n dX8_write_38 rfl ?_
        refine zv_aload_n dX8_write_39 rfl ?_
        refine zM_get hn zf_X8_7_6 rfl dX8_write_40 ?_
        refine zv_iload_n dX8_write_43 rfl ?_
        refine zM_ald0 hn (no_in (zb_0.mp (by assumption))) dX8_write_44 ?_
        refine zv_aload_n dX8_write_45 rfl ?_
        refine zM_get hn zf_X8_13_6 rfl dX8_write_46 ?_
        refine zv_iload_n dX8_write_49 rfl ?_
        refine zM_ald1 hn (no_in (zb_0.mp (by assumption))) dX8_write_50 ?_
        refine zv_iload_n dX8_write_51 rfl ?_
        refine zv_iload_n dX8_write_52 rfl ?_
        refine zv_aload_n dX8_write_53 rfl ?_
        refine zM_get hn zf_X8_78_6 rfl dX8_write_54 ?_
        refine zM_callg hn zm_X8_140 zkyX8_doWrite rfl (cM_doWrite hn (ho.1.1 _ (no_in (zb_0.mp (by assumption))))) rfl rfl (Nat.le_of_ble_eq_true rfl) (by decide) dX8_write_57 (fun σ57 e57 => ?_)
        refine zv_iconstv (v := 1) dX8_write_60 (by decide) ?_
        refine zM_call hn zm_X8_121 zkyX8_answer rfl (cM_answer hn (fun _ => wF_in _ _ _ _ _)) rfl rfl (Nat.le_of_ble_eq_true rfl) (by decide) dX8_write_61 ?_
        exact zv_ireturn dX8_write_64 rfl (by refine ⟨?_, ?_⟩ <;> simp_all [-Int32.not_lt, -Int32.not_le, ← Int32.not_lt, xT, xW, xK, xS, xF, xP, zb_0, zb_n, out_bey, bey_9, bey_10, bey_16, bey_7, bey_4, bey_5, bey_3, bey_m, bey_e, a_write, t_write])
      · skip
        refine zv_bipushv (v := (-3)) dX8_write_32 (by decide) ?_
        refine zv_goto (tgt := 64) dX8_write_34 (by decide) ?_
        exact zv_ireturn dX8_write_64 rfl (by refine ⟨?_, ?_⟩ <;> simp_all [-Int32.not_lt, -Int32.not_le, ← Int32.not_lt, xT, xW, xK, xS, xF, xP, zb_0, zb_n, out_bey, bey_9, bey_10, bey_16, bey_7, bey_4, bey_5, bey_3, bey_m, bey_e, a_write, t_write])
    · skip
      refine zv_bipushv (v := (-2)) dX8_write_21 (by decide) ?_
      exact zv_ireturn dX8_write_23 rfl (by refine ⟨?_, ?_⟩ <;> simp_all [-Int32.not_lt, -Int32.not_le, ← Int32.not_lt, xT, xW, xK, xS, xF, xP, zb_0, zb_n, out_bey, bey_9, bey_10, bey_16, bey_7, bey_4, bey_5, bey_3, bey_m, bey_e, a_write, t_write])
  · skip
    refine zv_iconstv (v := (-1)) dX8_write_7 (by decide) ?_
    exact zv_ireturn dX8_write_8 rfl (by refine ⟨?_, ?_⟩ <;> simp_all [-Int32.not_lt, -Int32.not_le, ← Int32.not_lt, xT, xW, xK, xS, xF, xP, zb_0, zb_n, out_bey, bey_9, bey_10, bey_16, bey_7, bey_4, bey_5, bey_3, bey_m, bey_e, a_write, t_write])
set_option maxRecDepth 20000 in
set_option maxHeartbeats 1000000 in
theorem cM_size {G : zh_G} {l : Launch} {g : Nat → va_E} {nn : Nat} {σ : sg} (hn : zg_B G + 28 ≤ nn) {r : Int32} (ho : okG σ) : zc G l yX8_size cX8_size 3 (some .int) 2 [.ref (zg_B G + 18), .int r] (ms G g σ, nn) 0 0 (fun o h' => o = some (.int (a_size σ r)) ∧ h' = (ms G g (t_size σ r), nn)) := by
  refine zc.of (by decide) (Nat.le_of_ble_eq_true rfl) ?_
  refine zv_iload_n dX8_size_0 rfl ?_
  refine zv_callSq (mc := 0) (ms := 0) zm_X8_57 zkyX8_no cM_no rfl rfl (Nat.le_of_ble_eq_true rfl) (by decide) dX8_size_1 ?_
  refine zv_if_eq (tgt := 9) dX8_size_4 (by decide) (fun c4 => ?_) (fun c4 => ?_)
  · skip
    refine zv_aload_n dX8_size_9 rfl ?_
    refine zv_iload_n dX8_size_10 rfl ?_
    refine zM_call hn zm_X8_144 zkyX8_sizeFault rfl (cM_sizeFault hn (no_in (zb_0.mp (by assumption)))) rfl rfl (Nat.le_of_ble_eq_true rfl) (by decide) dX8_size_11 ?_
    refine zv_istore_n dX8_size_14 (by decide) ?_
    refine zv_aload_n dX8_size_15 rfl ?_
    refine zv_iload_n dX8_size_16 rfl ?_
    refine zv_iload_n dX8_size_17 rfl ?_
    refine zv_if_le (tgt := 25) dX8_size_18 (by decide) (fun c18 => ?_) (fun c18 => ?_)
    · skip
      refine zv_aload_n dX8_size_25 rfl ?_
      refine zM_get hn zf_X8_23_6 rfl dX8_size_26 ?_
      refine zv_aload_n dX8_size_29 rfl ?_
      refine zM_get hn zf_X8_13_6 rfl dX8_size_30 ?_
      refine zv_iload_n dX8_size_33 rfl ?_
      refine zM_ald1 hn (by first | with_reducible exact (no_in (zb_0.mp (by assumption))) | with_reducible exact rk_i (ok_r ho (no_in (zb_0.mp (by assumption))) (szF_3 (by assumption)))) dX8_size_34 ?_
      refine zM_ald10 hn (by first | with_reducible exact (no_in (zb_0.mp (by assumption))) | with_reducible exact rk_i (ok_r ho (no_in (zb_0.mp (by assumption))) (szF_3 (by assumption)))) dX8_size_35 ?_
      refine zM_call hn zm_X8_121 zkyX8_answer rfl (cM_answer hn (fun _ => szF_in _ _)) rfl rfl (Nat.le_of_ble_eq_true rfl) (by decide) dX8_size_36 ?_
      exact zv_ireturn dX8_size_39 rfl (by refine ⟨?_, ?_⟩ <;> simp_all [-Int32.not_lt, -Int32.not_le, ← Int32.not_lt, xT, xW, xK, xS, xF, xP, zb_0, zb_n, out_bey, bey_9, bey_10, bey_16, bey_7, bey_4, bey_5, bey_3, bey_m, bey_e, a_size, t_size])
    · skip
      refine zv_iconstv (v := 0) dX8_size_21 (by decide) ?_
      refine zv_goto (tgt := 36) dX8_size_22 (by decide) ?_
      refine zM_call hn zm_X8_121 zkyX8_answer rfl (cM_answer hn (fun _ => szF_in _ _)) rfl rfl (Nat.le_of_ble_eq_true rfl) (by decide) dX8_size_36 ?_
      exact zv_ireturn dX8_size_39 rfl (by refine ⟨?_, ?_⟩ <;> simp_all [-Int32.not_lt, -Int32.not_le, ← Int32.not_lt, xT, xW, xK, xS, xF, xP, zb_0, zb_n, out_bey, bey_9, bey_10, bey_16, bey_7, bey_4, bey_5, bey_3, bey_m, bey_e, a_size, t_size])
  · skip
    refine zv_iconstv (v := (-1)) dX8_size_7 (by decide) ?_
    exact zv_ireturn dX8_size_8 rfl (by refine ⟨?_, ?_⟩ <;> simp_all [-Int32.not_lt, -Int32.not_le, ← Int32.not_lt, xT, xW, xK, xS, xF, xP, zb_0, zb_n, out_bey, bey_9, bey_10, bey_16, bey_7, bey_4, bey_5, bey_3, bey_m, bey_e, a_size, t_size])
set_option maxRecDepth 20000 in
set_option maxHeartbeats 1000000 in
theorem cM_within {G : zh_G} {l : Launch} {g : Nat → va_E} {nn : Nat} {σ : sg} (hn : zg_B G + 28 ≤ nn) {r i j : Int32} (ho : okG σ) : zc G l yX8_within cX8_within 4 (some .int) 4 [.ref (zg_B G + 18), .int r, .int i, .int j] (ms G g σ, nn) 0 0 (fun o h' => o = some (.int (a_within σ r i j)) ∧ h' = (ms G g (t_within σ r i j), nn)) := by
  refine zc.of (by decide) (Nat.le_of_ble_eq_true rfl) ?_
  refine zv_iload_n dX8_within_0 rfl ?_
  refine zv_callSq (mc := 0) (ms := 0) zm_X8_57 zkyX8_no cM_no rfl rfl (Nat.le_of_ble_eq_true rfl) (by decide) dX8_within_1 ?_
  refine zv_if_eq (tgt := 11) dX8_within_4 (by decide) (fun c4 => ?_) (fun c4 => ?_)
  · skip
    refine zv_aload_n dX8_within_11 rfl ?_
    refine zv_aload_n dX8_within_12 rfl ?_
    refine zv_iload_n dX8_within_13 rfl ?_
    refine zv_iload_n dX8_within_14 rfl ?_
    refine zv_iload_n dX8_within_15 rfl ?_
    refine zM_callg hn zm_X8_156 zkyX8_doWithin rfl (cM_doWithin hn (no_in (zb_0.mp (by assumption))) (ho.1.1 _ (no_in (zb_0.mp (by assumption)))) (ho.2.2 _ _ (no_in (zb_0.mp (by assumption))))) rfl rfl (Nat.le_of_ble_eq_true rfl) (by decide) dX8_within_16 (fun σ16 e16 => ?_)
    refine zv_iconstv (v := 1) dX8_within_19 (by decide) ?_
    refine zM_call hn zm_X8_121 zkyX8_answer rfl (cM_answer hn (fun _ => wiF_in _ _ _ _)) rfl rfl (Nat.le_of_ble_eq_true rfl) (by decide) dX8_within_20 ?_
    exact zv_ireturn dX8_within_23 rfl (by refine ⟨?_, ?_⟩ <;> simp_all [-Int32.not_lt, -Int32.not_le, ← Int32.not_lt, xT, xW, xK, xS, xF, xP, zb_0, zb_n, out_bey, bey_9, bey_10, bey_16, bey_7, bey_4, bey_5, bey_3, bey_m, bey_e, a_within, t_within])
  · skip
    refine zv_iconstv (v := (-1)) dX8_within_7 (by decide) ?_
    refine zv_goto (tgt := 23) dX8_within_8 (by decide) ?_
    exact zv_ireturn dX8_within_23 rfl (by refine ⟨?_, ?_⟩ <;> simp_all [-Int32.not_lt, -Int32.not_le, ← Int32.not_lt, xT, xW, xK, xS, xF, xP, zb_0, zb_n, out_bey, bey_9, bey_10, bey_16, bey_7, bey_4, bey_5, bey_3, bey_m, bey_e, a_within, t_within])
set_option maxRecDepth 20000 in
set_option maxHeartbeats 1000000 in
theorem cM_into {G : zh_G} {l : Launch} {g : Nat → va_E} {nn : Nat} {σ : sg} (hn : zg_B G + 28 ≤ nn) {r i j v : Int32} (ho : okG σ) : zc G l yX8_into cX8_into 6 (some .int) 3 [.ref (zg_B G + 18), .int r, .int i, .int j, .int v] (ms G g σ, nn) 0 0 (fun o h' => o = some (.int (a_into σ r i j)) ∧ h' = (ms G g (t_into σ r i j v), nn)) := by
  refine zc.of (by decide) (Nat.le_of_ble_eq_true rfl) ?_
  refine zv_iload_n dX8_into_0 rfl ?_
  refine zv_callSq (mc := 0) (ms := 0) zm_X8_57 zkyX8_no cM_no rfl rfl (Nat.le_of_ble_eq_true rfl) (by decide) dX8_into_1 ?_
  refine zv_if_eq (tgt := 9) dX8_into_4 (by decide) (fun c4 => ?_) (fun c4 => ?_)
  · skip
    refine zv_aload_n dX8_into_9 rfl ?_
    refine zv_iload_n dX8_into_10 rfl ?_
    refine zv_iload_n dX8_into_11 rfl ?_
    refine zM_callg hn zm_X8_153 zkyX8_finds rfl (cM_finds hn (no_in (zb_0.mp (by assumption))) (ho.1.1 _ (no_in (zb_0.mp (by assumption))))) rfl rfl (Nat.le_of_ble_eq_true rfl) (by decide) dX8_into_12 (fun σ12 e12 => ?_)
    refine zv_istore dX8_into_15 (by decide) ?_
    refine zv_iload dX8_into_17 rfl ?_
    refine zv_if_le (tgt := 27) dX8_into_19 (by decide) (fun c19 => ?_) (fun c19 => ?_)
    · skip
      refine zv_aload_n dX8_into_27 rfl ?_
      refine zv_aload_n dX8_into_28 rfl ?_
      refine zM_get hn zf_X8_147_6 rfl dX8_into_29 ?_
      refine zv_aload_n dX8_into_32 rfl ?_
      refine zM_get hn zf_X8_150_6 rfl dX8_into_33 ?_
      refine zv_iload_n dX8_into_36 rfl ?_
      refine zv_iconstv (v := 4) dX8_into_37 (by decide) ?_
      refine zv_iload dX8_into_38 rfl ?_
      refine zv_i2l dX8_into_40 ?_
      refine zM_callg hn zm_X8_140 zkyX8_doWrite rfl (cM_doWrite hn (by subst e12; exact ho.2.2 _ _ (no_in (zb_0.mp (by assumption))))) rfl rfl (Nat.le_of_ble_eq_true rfl) (by decide) dX8_into_41 (fun σ41 e41 => ?_)
      refine zv_istore dX8_into_44 (by decide) ?_
      refine zv_aload_n dX8_into_46 rfl ?_
      refine zv_iload dX8_into_47 rfl ?_
      refine zv_iconstv (v := 1) dX8_into_49 (by decide) ?_
      refine zM_call hn zm_X8_121 zkyX8_answer rfl (cM_answer hn (fun _ => by first | with_reducible exact gF_in _ _ _ _ | with_reducible exact wF_in _ _ _ _ _)) rfl rfl (Nat.le_of_ble_eq_true rfl) (by decide) dX8_into_50 ?_
      exact zv_ireturn dX8_into_53 rfl (by refine ⟨?_, ?_⟩ <;> simp_all [-Int32.not_lt, -Int32.not_le, ← Int32.not_lt, xT, xW, xK, xS, xF, xP, zb_0, zb_n, out_bey, bey_9, bey_10, bey_16, bey_7, bey_4, bey_5, bey_3, bey_m, bey_e, a_into, t_into, s_inF, s_inS])
    · skip
      refine zv_iload dX8_into_22 rfl ?_
      refine zv_goto (tgt := 44) dX8_into_24 (by decide) ?_
      refine zv_istore dX8_into_44 (by decide) ?_
      refine zv_aload_n dX8_into_46 rfl ?_
      refine zv_iload dX8_into_47 rfl ?_
      refine zv_iconstv (v := 1) dX8_into_49 (by decide) ?_
      refine zM_call hn zm_X8_121 zkyX8_answer rfl (cM_answer hn (fun _ => by first | with_reducible exact gF_in _ _ _ _ | with_reducible exact wF_in _ _ _ _ _)) rfl rfl (Nat.le_of_ble_eq_true rfl) (by decide) dX8_into_50 ?_
      exact zv_ireturn dX8_into_53 rfl (by refine ⟨?_, ?_⟩ <;> simp_all [-Int32.not_lt, -Int32.not_le, ← Int32.not_lt, xT, xW, xK, xS, xF, xP, zb_0, zb_n, out_bey, bey_9, bey_10, bey_16, bey_7, bey_4, bey_5, bey_3, bey_m, bey_e, a_into, t_into, s_inF, s_inS])
  · skip
    refine zv_iconstv (v := (-1)) dX8_into_7 (by decide) ?_
    exact zv_ireturn dX8_into_8 rfl (by refine ⟨?_, ?_⟩ <;> simp_all [-Int32.not_lt, -Int32.not_le, ← Int32.not_lt, xT, xW, xK, xS, xF, xP, zb_0, zb_n, out_bey, bey_9, bey_10, bey_16, bey_7, bey_4, bey_5, bey_3, bey_m, bey_e, a_into, t_into, s_inF, s_inS])
set_option maxRecDepth 20000 in
set_option maxHeartbeats 1000000 in
theorem cM_met {G : zh_G} {l : Launch} {g : Nat → va_E} {nn : Nat} {σ : sg} (hn : zg_B G + 28 ≤ nn) {k : Int32} (hD : s_rng k 0 (σ.1 14 - 1) = false → vp_in k 12) : zc G l yX8_met cX8_met 2 (some .int) 1 [.ref (zg_B G + 18), .int k] (ms G g σ, nn) 0 0 (fun o h' => o = some (.int (a_met σ k)) ∧ h' = (ms G g σ, nn)) := by
  refine zc.of (by decide) (Nat.le_of_ble_eq_true rfl) ?_
  refine zv_iload_n dX8_met_0 rfl ?_
  refine zv_i2l dX8_met_1 ?_
  refine zv_lconstv (v := 0) dX8_met_2 (by decide) ?_
  refine zv_aload_n dX8_met_3 rfl ?_
  refine zM_get hn zf_X8_176_6 rfl dX8_met_4 ?_
  refine zv_iconstv (v := 1) dX8_met_7 (by decide) ?_
  refine zv_isub dX8_met_8 ?_
  refine zv_i2l dX8_met_9 ?_
  refine zv_callSq (mc := 0) (ms := 0) zm_X8_42 zkyX8_beyond cM_beyond rfl rfl (Nat.le_of_ble_eq_true rfl) (by decide) dX8_met_10 ?_
  refine zv_if_eq (tgt := 21) dX8_met_13 (by decide) (fun c13 => ?_) (fun c13 => ?_)
  · skip
    refine zv_aload_n dX8_met_21 rfl ?_
    refine zM_get hn zf_X8_34_6 rfl dX8_met_22 ?_
    refine zv_iload_n dX8_met_25 rfl ?_
    refine zM_ald15 hn (hD (by simp_all [zb_0, bey_e])) dX8_met_26 ?_
    exact zv_ireturn dX8_met_27 rfl (by refine ⟨?_, ?_⟩ <;> simp_all [-Int32.not_lt, -Int32.not_le, ← Int32.not_lt, xT, xW, xK, xS, xF, xP, zb_0, zb_n, out_bey, bey_9, bey_10, bey_16, bey_7, bey_4, bey_5, bey_3, bey_m, bey_e, a_met])
  · skip
    refine zv_bipushv (v := (-9)) dX8_met_16 (by decide) ?_
    refine zv_goto (tgt := 27) dX8_met_18 (by decide) ?_
    exact zv_ireturn dX8_met_27 rfl (by refine ⟨?_, ?_⟩ <;> simp_all [-Int32.not_lt, -Int32.not_le, ← Int32.not_lt, xT, xW, xK, xS, xF, xP, zb_0, zb_n, out_bey, bey_9, bey_10, bey_16, bey_7, bey_4, bey_5, bey_3, bey_m, bey_e, a_met])
set_option maxRecDepth 20000 in
set_option maxHeartbeats 1000000 in
theorem cM_clear {G : zh_G} {l : Launch} {g : Nat → va_E} {nn : Nat} {σ : sg} (hn : zg_B G + 28 ≤ nn)  : zc G l yX8_clear cX8_clear 2 (some .int) 0 [.ref (zg_B G + 18)] (ms G g σ, nn) 0 0 (fun o h' => o = some (.int (σ.1 12)) ∧ h' = (ms G g (t_clear σ), nn)) := by
  refine zc.of (by decide) (Nat.le_of_ble_eq_true rfl) ?_
  refine zv_aload_n dX8_clear_0 rfl ?_
  refine zM_get hn zf_X8_170_6 rfl dX8_clear_1 ?_
  refine zv_istore_n dX8_clear_4 (by decide) ?_
  refine zv_aload_n dX8_clear_5 rfl ?_
  refine zv_iconstv (v := 0) dX8_clear_6 (by decide) ?_
  refine zM_put12 hn zfw_X8_170_6 dX8_clear_7 ?_
  refine zv_aload_n dX8_clear_10 rfl ?_
  refine zv_iconstv (v := 0) dX8_clear_11 (by decide) ?_
  refine zM_put14 hn zfw_X8_176_6 dX8_clear_12 ?_
  refine zv_iload_n dX8_clear_15 rfl ?_
  exact zv_ireturn dX8_clear_16 rfl (by refine ⟨?_, ?_⟩ <;> simp_all [-Int32.not_lt, -Int32.not_le, ← Int32.not_lt, xT, xW, xK, xS, xF, xP, zb_0, zb_n, out_bey, bey_9, bey_10, bey_16, bey_7, bey_4, bey_5, bey_3, bey_m, bey_e, t_clear])
set_option maxRecDepth 20000 in
set_option maxHeartbeats 1000000 in
theorem cM_fault {G : zh_G} {l : Launch} {g : Nat → va_E} {nn : Nat} {σ : sg} (hn : zg_B G + 28 ≤ nn)  : zc G l yX8_fault cX8_fault 1 (some .int) 0 [.ref (zg_B G + 18)] (ms G g σ, nn) 0 0 (fun o h' => o = some (.int (σ.1 16)) ∧ h' = (ms G g σ, nn)) := by
  refine zc.of (by decide) (Nat.le_of_ble_eq_true rfl) ?_
  refine zv_aload_n dX8_fault_0 rfl ?_
  refine zM_get hn zf_X8_46_6 rfl dX8_fault_1 ?_
  exact zv_ireturn dX8_fault_4 rfl (by refine ⟨?_, ?_⟩ <;> simp_all [-Int32.not_lt, -Int32.not_le, ← Int32.not_lt, xT, xW, xK, xS, xF, xP, zb_0, zb_n, out_bey, bey_9, bey_10, bey_16, bey_7, bey_4, bey_5, bey_3, bey_m, bey_e])
set_option maxRecDepth 20000 in
set_option maxHeartbeats 1000000 in
theorem cM_faults {G : zh_G} {l : Launch} {g : Nat → va_E} {nn : Nat} {σ : sg} (hn : zg_B G + 28 ≤ nn) {k : Int32} : zc G l yX8_faults cX8_faults 2 (some .int) 1 [.ref (zg_B G + 18), .int k] (ms G g σ, nn) 0 0 (fun o h' => o = some (.int (a_faults σ k)) ∧ h' = (ms G g σ, nn)) := by
  refine zc.of (by decide) (Nat.le_of_ble_eq_true rfl) ?_
  refine zv_iload_n dX8_faults_0 rfl ?_
  refine zv_i2l dX8_faults_1 ?_
  refine zv_lconstv (v := 0) dX8_faults_2 (by decide) ?_
  refine zv_ldc2 dX8_faults_3 zq_X8_182 ?_
  refine zv_callSq (mc := 0) (ms := 0) zm_X8_42 zkyX8_beyond cM_beyond rfl rfl (Nat.le_of_ble_eq_true rfl) (by decide) dX8_faults_6 ?_
  refine zv_if_eq (tgt := 17) dX8_faults_9 (by decide) (fun c9 => ?_) (fun c9 => ?_)
  · skip
    refine zv_aload_n dX8_faults_17 rfl ?_
    refine zM_get hn zf_X8_37_6 rfl dX8_faults_18 ?_
    refine zv_iload_n dX8_faults_21 rfl ?_
    refine zM_ald17 hn (rng3_in (by simp_all [zb_0, bey_3])) dX8_faults_22 ?_
    exact zv_ireturn dX8_faults_23 rfl (by refine ⟨?_, ?_⟩ <;> simp_all [-Int32.not_lt, -Int32.not_le, ← Int32.not_lt, xT, xW, xK, xS, xF, xP, zb_0, zb_n, out_bey, bey_9, bey_10, bey_16, bey_7, bey_4, bey_5, bey_3, bey_m, bey_e, a_faults])
  · skip
    refine zv_bipushv (v := (-9)) dX8_faults_12 (by decide) ?_
    refine zv_goto (tgt := 23) dX8_faults_14 (by decide) ?_
    exact zv_ireturn dX8_faults_23 rfl (by refine ⟨?_, ?_⟩ <;> simp_all [-Int32.not_lt, -Int32.not_le, ← Int32.not_lt, xT, xW, xK, xS, xF, xP, zb_0, zb_n, out_bey, bey_9, bey_10, bey_16, bey_7, bey_4, bey_5, bey_3, bey_m, bey_e, a_faults])
set_option maxRecDepth 20000 in
set_option maxHeartbeats 1000000 in
theorem cM_told {G : zh_G} {l : Launch} {g : Nat → va_E} {nn : Nat} {σ : sg} (hn : zg_B G + 28 ≤ nn) {r : Int32} (h3 : vp_in r 10 → xT σ r = 3 → vp_in (xW σ r) 5000) (h2 : vp_in r 10 → ¬ xT σ r = 0 → ¬ xT σ r = 3 → vp_in (xW σ r) 41) : zc G l yX8_told cX8_told 3 (some .int) 2 [.ref (zg_B G + 18), .int r] (ms G g σ, nn) 0 0 (fun o h' => o = some (.int (a_told σ r)) ∧ h' = (ms G g σ, nn)) := by
  refine zc.of (by decide) (Nat.le_of_ble_eq_true rfl) ?_
  refine zv_iload_n dX8_told_0 rfl ?_
  refine zv_callSq (mc := 0) (ms := 0) zm_X8_57 zkyX8_no cM_no rfl rfl (Nat.le_of_ble_eq_true rfl) (by decide) dX8_told_1 ?_
  refine zv_if_eq (tgt := 9) dX8_told_4 (by decide) (fun c4 => ?_) (fun c4 => ?_)
  · skip
    refine zv_aload_n dX8_told_9 rfl ?_
    refine zM_get hn zf_X8_13_6 rfl dX8_told_10 ?_
    refine zv_iload_n dX8_told_13 rfl ?_
    refine zM_ald1 hn (by first | with_reducible exact (no_in (zb_0.mp (by assumption))) | with_reducible exact h3 (no_in (zb_0.mp (by assumption))) (by assumption) | with_reducible exact h2 (no_in (zb_0.mp (by assumption))) (by assumption) (by assumption)) dX8_told_14 ?_
    refine zv_istore_n dX8_told_15 (by decide) ?_
    refine zv_aload_n dX8_told_16 rfl ?_
    refine zM_get hn zf_X8_7_6 rfl dX8_told_17 ?_
    refine zv_iload_n dX8_told_20 rfl ?_
    refine zM_ald0 hn (by first | with_reducible exact (no_in (zb_0.mp (by assumption))) | with_reducible exact h3 (no_in (zb_0.mp (by assumption))) (by assumption) | with_reducible exact h2 (no_in (zb_0.mp (by assumption))) (by assumption) (by assumption)) dX8_told_21 ?_
    refine zv_if_ne (tgt := 30) dX8_told_22 (by decide) (fun c22 => ?_) (fun c22 => ?_)
    · skip
      refine zv_aload_n dX8_told_30 rfl ?_
      refine zM_get hn zf_X8_7_6 rfl dX8_told_31 ?_
      refine zv_iload_n dX8_told_34 rfl ?_
      refine zM_ald0 hn (by first | with_reducible exact (no_in (zb_0.mp (by assumption))) | with_reducible exact h3 (no_in (zb_0.mp (by assumption))) (by assumption) | with_reducible exact h2 (no_in (zb_0.mp (by assumption))) (by assumption) (by assumption)) dX8_told_35 ?_
      refine zv_iconstv (v := 3) dX8_told_36 (by decide) ?_
      refine zv_icmp_ne (tgt := 49) dX8_told_37 (by decide) (fun c37 => ?_) (fun c37 => ?_)
      · skip
        refine zv_aload_n dX8_told_49 rfl ?_
        refine zM_get hn zf_X8_16_6 rfl dX8_told_50 ?_
        refine zv_iload_n dX8_told_53 rfl ?_
        refine zM_ald7 hn (by first | with_reducible exact (no_in (zb_0.mp (by assumption))) | with_reducible exact h3 (no_in (zb_0.mp (by assumption))) (by assumption) | with_reducible exact h2 (no_in (zb_0.mp (by assumption))) (by assumption) (by assumption)) dX8_told_54 ?_
        refine zv_if_eq (tgt := 63) dX8_told_55 (by decide) (fun c55 => ?_) (fun c55 => ?_)
        · skip
          refine zv_bipushv (v := 11) dX8_told_63 (by decide) ?_
          exact zv_ireturn dX8_told_65 rfl (by refine ⟨?_, ?_⟩ <;> simp_all [-Int32.not_lt, -Int32.not_le, ← Int32.not_lt, xT, xW, xK, xS, xF, xP, zb_0, zb_n, out_bey, bey_9, bey_10, bey_16, bey_7, bey_4, bey_5, bey_3, bey_m, bey_e, a_told])
        · skip
          refine zv_bipushv (v := 12) dX8_told_58 (by decide) ?_
          refine zv_goto (tgt := 65) dX8_told_60 (by decide) ?_
          exact zv_ireturn dX8_told_65 rfl (by refine ⟨?_, ?_⟩ <;> simp_all [-Int32.not_lt, -Int32.not_le, ← Int32.not_lt, xT, xW, xK, xS, xF, xP, zb_0, zb_n, out_bey, bey_9, bey_10, bey_16, bey_7, bey_4, bey_5, bey_3, bey_m, bey_e, a_told])
      · skip
        refine zv_aload_n dX8_told_40 rfl ?_
        refine zM_get hn zf_X8_20_6 rfl dX8_told_41 ?_
        refine zv_iload_n dX8_told_44 rfl ?_
        refine zM_ald9 hn (by first | with_reducible exact (no_in (zb_0.mp (by assumption))) | with_reducible exact h3 (no_in (zb_0.mp (by assumption))) (by assumption) | with_reducible exact h2 (no_in (zb_0.mp (by assumption))) (by assumption) (by assumption)) dX8_told_45 ?_
        refine zv_goto (tgt := 65) dX8_told_46 (by decide) ?_
        exact zv_ireturn dX8_told_65 rfl (by refine ⟨?_, ?_⟩ <;> simp_all [-Int32.not_lt, -Int32.not_le, ← Int32.not_lt, xT, xW, xK, xS, xF, xP, zb_0, zb_n, out_bey, bey_9, bey_10, bey_16, bey_7, bey_4, bey_5, bey_3, bey_m, bey_e, a_told])
    · skip
      refine zv_bipushv (v := (-9)) dX8_told_25 (by decide) ?_
      refine zv_goto (tgt := 65) dX8_told_27 (by decide) ?_
      exact zv_ireturn dX8_told_65 rfl (by refine ⟨?_, ?_⟩ <;> simp_all [-Int32.not_lt, -Int32.not_le, ← Int32.not_lt, xT, xW, xK, xS, xF, xP, zb_0, zb_n, out_bey, bey_9, bey_10, bey_16, bey_7, bey_4, bey_5, bey_3, bey_m, bey_e, a_told])
  · skip
    refine zv_iconstv (v := (-1)) dX8_told_7 (by decide) ?_
    exact zv_ireturn dX8_told_8 rfl (by refine ⟨?_, ?_⟩ <;> simp_all [-Int32.not_lt, -Int32.not_le, ← Int32.not_lt, xT, xW, xK, xS, xF, xP, zb_0, zb_n, out_bey, bey_9, bey_10, bey_16, bey_7, bey_4, bey_5, bey_3, bey_m, bey_e, a_told])
set_option maxRecDepth 20000 in
set_option maxHeartbeats 1000000 in
theorem cM_step {G : zh_G} {l : Launch} {g : Nat → va_E} {nn : Nat} {σ : sg} (hn : zg_B G + 28 ≤ nn) {op a i b k : Int32} (hS : ¬ σ.1 12 = 12 → vp_in (5 * σ.1 12) 60 ∧ vp_in (5 * σ.1 12 + 1) 60 ∧ vp_in (5 * σ.1 12 + 2) 60 ∧ vp_in (5 * σ.1 12 + 3) 60 ∧ vp_in (5 * σ.1 12 + 4) 60) : zc G l yX8_step cX8_step 7 (some .int) 2 [.ref (zg_B G + 18), .int op, .int a, .int i, .int b, .int k] (ms G g σ, nn) 0 0 (fun o h' => o = some (.int (a_step σ op a i b k)) ∧ h' = (ms G g (t_step σ op a i b k), nn)) := by
  refine zc.of (by decide) (Nat.le_of_ble_eq_true rfl) ?_
  refine zv_iload_n dX8_step_0 rfl ?_
  refine zv_callSq (mc := 0) (ms := 0) zm_X8_57 zkyX8_no cM_no rfl rfl (Nat.le_of_ble_eq_true rfl) (by decide) dX8_step_1 ?_
  refine zv_if_ne (tgt := 15) dX8_step_4 (by decide) (fun c4 => ?_) (fun c4 => ?_)
  · skip
    refine zv_iconstv (v := (-1)) dX8_step_15 (by decide) ?_
    exact zv_ireturn dX8_step_16 rfl (by refine ⟨?_, ?_⟩ <;> simp_all [-Int32.not_lt, -Int32.not_le, ← Int32.not_lt, xT, xW, xK, xS, xF, xP, zb_0, zb_n, out_bey, bey_9, bey_10, bey_16, bey_7, bey_4, bey_5, bey_3, bey_m, bey_e, a_step, t_step, s_st5, sa, si, va_up, upd])
  · skip
    refine zv_iload dX8_step_7 rfl ?_
    refine zv_callSq (mc := 0) (ms := 0) zm_X8_57 zkyX8_no cM_no rfl rfl (Nat.le_of_ble_eq_true rfl) (by decide) dX8_step_9 ?_
    refine zv_if_eq (tgt := 17) dX8_step_12 (by decide) (fun c12 => ?_) (fun c12 => ?_)
    · skip
      refine zv_iload_n dX8_step_17 rfl ?_
      refine zv_i2l dX8_step_18 ?_
      refine zv_lconstv (v := 0) dX8_step_19 (by decide) ?_
      refine zv_ldc2 dX8_step_20 zq_X8_166 ?_
      refine zv_callSq (mc := 0) (ms := 0) zm_X8_42 zkyX8_beyond cM_beyond rfl rfl (Nat.le_of_ble_eq_true rfl) (by decide) dX8_step_23 ?_
      refine zv_if_ne (tgt := 56) dX8_step_26 (by decide) (fun c26 => ?_) (fun c26 => ?_)
      · skip
        refine zv_bipushv (v := (-2)) dX8_step_56 (by decide) ?_
        exact zv_ireturn dX8_step_58 rfl (by refine ⟨?_, ?_⟩ <;> simp_all [-Int32.not_lt, -Int32.not_le, ← Int32.not_lt, xT, xW, xK, xS, xF, xP, zb_0, zb_n, out_bey, bey_9, bey_10, bey_16, bey_7, bey_4, bey_5, bey_3, bey_m, bey_e, a_step, t_step, s_st5, sa, si, va_up, upd])
      · skip
        refine zv_iload_n dX8_step_29 rfl ?_
        refine zv_i2l dX8_step_30 ?_
        refine zv_ldc2 dX8_step_31 zq_X8_168 ?_
        refine zv_ldc2 dX8_step_34 zq_X8_63 ?_
        refine zv_callSq (mc := 0) (ms := 0) zm_X8_42 zkyX8_beyond cM_beyond rfl rfl (Nat.le_of_ble_eq_true rfl) (by decide) dX8_step_37 ?_
        refine zv_if_ne (tgt := 56) dX8_step_40 (by decide) (fun c40 => ?_) (fun c40 => ?_)
        · skip
          refine zv_bipushv (v := (-2)) dX8_step_56 (by decide) ?_
          exact zv_ireturn dX8_step_58 rfl (by refine ⟨?_, ?_⟩ <;> simp_all [-Int32.not_lt, -Int32.not_le, ← Int32.not_lt, xT, xW, xK, xS, xF, xP, zb_0, zb_n, out_bey, bey_9, bey_10, bey_16, bey_7, bey_4, bey_5, bey_3, bey_m, bey_e, a_step, t_step, s_st5, sa, si, va_up, upd])
        · skip
          refine zv_iload dX8_step_43 rfl ?_
          refine zv_i2l dX8_step_45 ?_
          refine zv_lconstv (v := 0) dX8_step_46 (by decide) ?_
          refine zv_ldc2 dX8_step_47 zq_X8_82 ?_
          refine zv_callSq (mc := 0) (ms := 0) zm_X8_42 zkyX8_beyond cM_beyond rfl rfl (Nat.le_of_ble_eq_true rfl) (by decide) dX8_step_50 ?_
          refine zv_if_eq (tgt := 59) dX8_step_53 (by decide) (fun c53 => ?_) (fun c53 => ?_)
          · skip
            refine zv_aload_n dX8_step_59 rfl ?_
            refine zM_get hn zf_X8_170_6 rfl dX8_step_60 ?_
            refine zv_bipushv (v := 12) dX8_step_63 (by decide) ?_
            refine zv_icmp_ne (tgt := 71) dX8_step_65 (by decide) (fun c65 => ?_) (fun c65 => ?_)
            · skip
              refine zv_iconstv (v := 5) dX8_step_71 (by decide) ?_
              refine zv_aload_n dX8_step_72 rfl ?_
              refine zM_get hn zf_X8_170_6 rfl dX8_step_73 ?_
              refine zv_imul dX8_step_76 ?_
              refine zv_istore dX8_step_77 (by decide) ?_
              refine zv_aload_n dX8_step_79 rfl ?_
              refine zM_get hn zf_X8_31_6 rfl dX8_step_80 ?_
              refine zv_iload dX8_step_83 rfl ?_
              refine zv_iload_n dX8_step_85 rfl ?_
              refine zM_ast13 hn (by have z := hS (by assumption); first | with_reducible exact z.1 | with_reducible exact z.2.1 | with_reducible exact z.2.2.1 | with_reducible exact z.2.2.2.1 | with_reducible exact z.2.2.2.2) dX8_step_86 ?_
              refine zv_aload_n dX8_step_87 rfl ?_
              refine zM_get hn zf_X8_31_6 rfl dX8_step_88 ?_
              refine zv_iload dX8_step_91 rfl ?_
              refine zv_iconstv (v := 1) dX8_step_93 (by decide) ?_
              refine zv_iadd dX8_step_94 ?_
              refine zv_iload_n dX8_step_95 rfl ?_
              refine zM_ast13 hn (by have z := hS (by assumption); first | with_reducible exact z.1 | with_reducible exact z.2.1 | with_reducible exact z.2.2.1 | with_reducible exact z.2.2.2.1 | with_reducible exact z.2.2.2.2) dX8_step_96 ?_
              refine zv_aload_n dX8_step_97 rfl ?_
              refine zM_get hn zf_X8_31_6 rfl dX8_step_98 ?_
              refine zv_iload dX8_step_101 rfl ?_
              refine zv_iconstv (v := 2) dX8_step_103 (by decide) ?_
              refine zv_iadd dX8_step_104 ?_
              refine zv_iload_n dX8_step_105 rfl ?_
              refine zM_ast13 hn (by have z := hS (by assumption); first | with_reducible exact z.1 | with_reducible exact z.2.1 | with_reducible exact z.2.2.1 | with_reducible exact z.2.2.2.1 | with_reducible exact z.2.2.2.2) dX8_step_106 ?_
              refine zv_aload_n dX8_step_107 rfl ?_
              refine zM_get hn zf_X8_31_6 rfl dX8_step_108 ?_
              refine zv_iload dX8_step_111 rfl ?_
              refine zv_iconstv (v := 3) dX8_step_113 (by decide) ?_
              refine zv_iadd dX8_step_114 ?_
              refine zv_iload dX8_step_115 rfl ?_
              refine zM_ast13 hn (by have z := hS (by assumption); first | with_reducible exact z.1 | with_reducible exact z.2.1 | with_reducible exact z.2.2.1 | with_reducible exact z.2.2.2.1 | with_reducible exact z.2.2.2.2) dX8_step_117 ?_
              refine zv_aload_n dX8_step_118 rfl ?_
              refine zM_get hn zf_X8_31_6 rfl dX8_step_119 ?_
              refine zv_iload dX8_step_122 rfl ?_
              refine zv_iconstv (v := 4) dX8_step_124 (by decide) ?_
              refine zv_iadd dX8_step_125 ?_
              refine zv_iload dX8_step_126 rfl ?_
              refine zM_ast13 hn (by have z := hS (by assumption); first | with_reducible exact z.1 | with_reducible exact z.2.1 | with_reducible exact z.2.2.1 | with_reducible exact z.2.2.2.1 | with_reducible exact z.2.2.2.2) dX8_step_128 ?_
              refine zv_aload_n dX8_step_129 rfl ?_
              refine zv_dup dX8_step_130 rfl ?_
              refine zM_get hn zf_X8_170_6 rfl dX8_step_131 ?_
              refine zv_iconstv (v := 1) dX8_step_134 (by decide) ?_
              refine zv_iadd dX8_step_135 ?_
              refine zM_put12 hn zfw_X8_170_6 dX8_step_136 ?_
              refine zv_aload_n dX8_step_139 rfl ?_
              refine zM_get hn zf_X8_170_6 rfl dX8_step_140 ?_
              exact zv_ireturn dX8_step_143 rfl (by refine ⟨?_, ?_⟩ <;> simp_all [-Int32.not_lt, -Int32.not_le, ← Int32.not_lt, xT, xW, xK, xS, xF, xP, zb_0, zb_n, out_bey, bey_9, bey_10, bey_16, bey_7, bey_4, bey_5, bey_3, bey_m, bey_e, a_step, t_step, s_st5, sa, si, va_up, upd])
            · skip
              refine zv_bipushv (v := (-4)) dX8_step_68 (by decide) ?_
              exact zv_ireturn dX8_step_70 rfl (by refine ⟨?_, ?_⟩ <;> simp_all [-Int32.not_lt, -Int32.not_le, ← Int32.not_lt, xT, xW, xK, xS, xF, xP, zb_0, zb_n, out_bey, bey_9, bey_10, bey_16, bey_7, bey_4, bey_5, bey_3, bey_m, bey_e, a_step, t_step, s_st5, sa, si, va_up, upd])
          · skip
            refine zv_bipushv (v := (-2)) dX8_step_56 (by decide) ?_
            exact zv_ireturn dX8_step_58 rfl (by refine ⟨?_, ?_⟩ <;> simp_all [-Int32.not_lt, -Int32.not_le, ← Int32.not_lt, xT, xW, xK, xS, xF, xP, zb_0, zb_n, out_bey, bey_9, bey_10, bey_16, bey_7, bey_4, bey_5, bey_3, bey_m, bey_e, a_step, t_step, s_st5, sa, si, va_up, upd])
    · skip
      refine zv_iconstv (v := (-1)) dX8_step_15 (by decide) ?_
      exact zv_ireturn dX8_step_16 rfl (by refine ⟨?_, ?_⟩ <;> simp_all [-Int32.not_lt, -Int32.not_le, ← Int32.not_lt, xT, xW, xK, xS, xF, xP, zb_0, zb_n, out_bey, bey_9, bey_10, bey_16, bey_7, bey_4, bey_5, bey_3, bey_m, bey_e, a_step, t_step, s_st5, sa, si, va_up, upd])
end
section
theorem zM_st {G : zh_G} {l : Launch} {y : MethodName} {cc : ByteArray} {n : Nat} {r : Option FieldType} {d mc ms0 pc : Nat} {lv : List (Nat × Value)} {st : List Value} {Q : Option Value → zh_H → Prop} {g : Nat → va_E} {nn : Nat} {σ1 σ2 : sg} (e : σ1 = σ2) (kk : zv G l y cc n r d mc ms0 pc lv st (ms G g σ2, nn) Q) : zv G l y cc n r d mc ms0 pc lv st (ms G g σ1, nn) Q := e ▸ kk
theorem nIs (j : Nat) : nI j + Int32.ofInt 1 = nI (j + 1) := by rw [show Int32.ofInt 1 = 1 from by decide]; exact nI_1 j
def s_z (σ : sg) (R j : Nat) : sg := (σ.1, σ.2.1, σ.2.2.1, fun a => if 16 * R ≤ a ∧ a < 16 * R + j then 0 else σ.2.2.2 a)
theorem s_z0 (σ : sg) (R : Nat) : σ = s_z σ R 0 := by
  unfold s_z
  have : (fun a => if 16 * R ≤ a ∧ a < 16 * R + 0 then (0 : Int64) else σ.2.2.2 a) = σ.2.2.2 := by
    funext a; rw [if_neg (by omega)]
  rw [this]
theorem ix16 {R j : Nat} (hR : R < 5000) (hj : j < 16) : (16 * nI R + nI j).toNatClampNeg = 16 * R + j := by
  rw [show (16 : Int32) = nI 16 from rfl, pk_mul, nI_add, nI_clamp (by omega)]
theorem in16 {R j : Nat} (hR : R < 5000) (hj : j < 16) : vp_in (16 * nI R + nI j) 80000 := by
  rw [show (16 : Int32) = nI 16 from rfl, pk_mul, nI_add]; exact vp_in_nI (by omega) (by omega)
theorem s_z_st {σ : sg} {R j : Nat} (hr : σ.1 8 = nI R) (hR : R < 5000) (hj : j < 16) : sp (s_z σ R j) (16 * (s_z σ R j).1 8 + nI j).toNatClampNeg 0 = s_z σ R (j + 1) := by
  have e : (16 * (s_z σ R j).1 8 + nI j).toNatClampNeg = 16 * R + j := by
    show (16 * σ.1 8 + nI j).toNatClampNeg = _
    rw [hr]; exact ix16 hR hj
  rw [e]
  unfold sp s_z
  simp only [Prod.mk.injEq, true_and]
  funext a
  unfold vp_updL
  by_cases ha : a = 16 * R + j
  · rw [if_pos ha, if_pos (by omega)]
  · rw [if_neg ha]
    show (if 16 * R ≤ a ∧ a < 16 * R + j then (0 : Int64) else σ.2.2.2 a) = _
    by_cases hb : 16 * R ≤ a ∧ a < 16 * R + j
    · rw [if_pos hb, if_pos (by omega)]
    · rw [if_neg hb, if_neg (by omega)]
set_option maxRecDepth 20000 in
set_option maxHeartbeats 1000000 in
theorem cM_newRow_l {G : zh_G} {l : Launch} {g : Nat → va_E} {nn : Nat} (hn : zg_B G + 28 ≤ nn) {σ : sg} {k n : Int32} {R : Nat} {Q : Option Value → zh_H → Prop} (hr : σ.1 8 = nI R) (hR : R < 5000) (kx : zv G l yX8_newRow cX8_newRow 4 (some .int) 0 0 0 49 [(3, .int (nI 16)), (0, .ref (zg_B G + 18)), (1, .int k), (2, .int n)] [] (ms G g (s_z σ R 16), nn) Q) : ∀ (m j : Nat), j + m = 16 → zv G l yX8_newRow cX8_newRow 4 (some .int) 0 0 0 22 [(3, .int (nI j)), (0, .ref (zg_B G + 18)), (1, .int k), (2, .int n)] [] (ms G g (s_z σ R j), nn) Q := by
  intro m
  induction m with
  | zero =>
    intro j hj
    have hj : j = 16 := by omega
    subst hj
    refine zv_iload_n dX8_newRow_22 rfl ?_
    refine zv_bipushv (v := 16) dX8_newRow_23 (by decide) ?_
    exact zv_icmp_ge (tgt := 49) dX8_newRow_25 (by decide) (fun _ => kx) (fun c => absurd (by decide) c)
  | succ m ih =>
    intro j hj
    refine zv_iload_n dX8_newRow_22 rfl ?_
    refine zv_bipushv (v := 16) dX8_newRow_23 (by decide) ?_
    refine zv_icmp_ge (tgt := 49) dX8_newRow_25 (by decide) (fun c25 => ?_) (fun c25 => ?_)
    · exact absurd c25 (by rw [show (16 : Int32) = nI 16 from rfl]; exact nI_ge (by omega) (by decide))
    · skip
      refine zv_aload_n dX8_newRow_28 rfl ?_
      refine zM_get hn zf_X8_27_6 rfl dX8_newRow_29 ?_
      refine zv_bipushv (v := 16) dX8_newRow_32 (by decide) ?_
      refine zv_aload_n dX8_newRow_34 rfl ?_
      refine zM_get hn zf_X8_54_6 rfl dX8_newRow_35 ?_
      refine zv_imul dX8_newRow_38 ?_
      refine zv_iload_n dX8_newRow_39 rfl ?_
      refine zv_iadd dX8_newRow_40 ?_
      refine zv_lconstv (v := 0) dX8_newRow_41 (by decide) ?_
      refine zM_ast11 hn (show vp_in (16 * σ.1 8 + nI j) 80000 by rw [hr]; exact in16 hR (by omega)) dX8_newRow_42 ?_
      refine zv_iinc dX8_newRow_43 rfl (by decide) ?_
      refine zv_goto (tgt := 22) dX8_newRow_46 (by decide) ?_
      have ih2 := ih (j + 1) (by omega)
      rw [← nIs j, ← s_z_st hr hR (by omega)] at ih2
      exact ih2
theorem newS_eq {σ : sg} {k n : Int32} {R : Nat} (hr : σ.1 8 = nI R) (hR : R < 5000) : si (s_z (sa (sa σ 9 (σ.1 8).toNatClampNeg k) 10 (σ.1 8).toNatClampNeg n) R 16) 8 (σ.1 8 + 1) = s_newS σ k n := by
  have e : (σ.1 8).toNatClampNeg = R := by rw [hr]; exact nI_clamp (by omega)
  unfold s_newS
  rw [e]
  unfold si s_z sa
  simp [va_up]
set_option maxRecDepth 20000 in
set_option maxHeartbeats 1000000 in
theorem cM_newRow {G : zh_G} {l : Launch} {g : Nat → va_E} {nn : Nat} {σ : sg} (hn : zg_B G + 28 ≤ nn) {k n : Int32} {R : Nat} (hr : σ.1 8 = nI R) (hR : R < 5000) : zc G l yX8_newRow cX8_newRow 4 (some .int) 0 [.ref (zg_B G + 18), .int k, .int n] (ms G g σ, nn) 0 0 (fun o h' => o = some (.int (σ.1 8)) ∧ h' = (ms G g (s_newS σ k n), nn)) := by
  refine zc.of (by decide) (Nat.le_of_ble_eq_true rfl) ?_
  have hi : vp_in (σ.1 8) 5000 := by rw [hr]; exact vp_in_nI hR (by decide)
  refine zv_aload_n dX8_newRow_0 rfl ?_
  refine zM_get hn zf_X8_20_6 rfl dX8_newRow_1 ?_
  refine zv_aload_n dX8_newRow_4 rfl ?_
  refine zM_get hn zf_X8_54_6 rfl dX8_newRow_5 ?_
  refine zv_iload_n dX8_newRow_8 rfl ?_
  refine zM_ast9 hn hi dX8_newRow_9 ?_
  refine zv_aload_n dX8_newRow_10 rfl ?_
  refine zM_get hn zf_X8_23_6 rfl dX8_newRow_11 ?_
  refine zv_aload_n dX8_newRow_14 rfl ?_
  refine zM_get hn zf_X8_54_6 rfl dX8_newRow_15 ?_
  refine zv_iload_n dX8_newRow_18 rfl ?_
  refine zM_ast10 hn hi dX8_newRow_19 ?_
  refine zv_iconstv (v := 0) dX8_newRow_20 (by decide) ?_
  refine zv_istore_n dX8_newRow_21 (by decide) ?_
  refine zM_st (s_z0 _ R) ?_
  refine cM_newRow_l hn (R := R) (σ := sa (sa σ 9 (σ.1 8).toNatClampNeg k) 10 (σ.1 8).toNatClampNeg n) hr hR ?_ 16 0 rfl
  refine zv_aload_n dX8_newRow_49 rfl ?_
  refine zv_dup dX8_newRow_50 rfl ?_
  refine zM_get hn zf_X8_54_6 rfl dX8_newRow_51 ?_
  refine zv_iconstv (v := 1) dX8_newRow_54 (by decide) ?_
  refine zv_iadd dX8_newRow_55 ?_
  refine zM_put8 hn zfw_X8_54_6 dX8_newRow_56 ?_
  refine zv_aload_n dX8_newRow_59 rfl ?_
  refine zM_get hn zf_X8_54_6 rfl dX8_newRow_60 ?_
  refine zv_iconstv (v := 1) dX8_newRow_63 (by decide) ?_
  refine zv_isub dX8_newRow_64 ?_
  exact zv_ireturn dX8_newRow_65 rfl ⟨by simp [si, upd, s_z, sa], by rw [← newS_eq hr hR]; rfl⟩
set_option maxRecDepth 20000 in
set_option maxHeartbeats 1000000 in
theorem cM_rack {G : zh_G} {l : Launch} {g : Nat → va_E} {nn : Nat} {σ : sg} (hn : zg_B G + 28 ≤ nn) {r k n : Int32} {R : Nat} (hr : σ.1 8 = nI R) (hR : R < 5000) : zc G l yX8_rack cX8_rack 4 (some .int) 2 [.ref (zg_B G + 18), .int r, .int k, .int n] (ms G g σ, nn) 0 0 (fun o h' => o = some (.int (a_rack r k n)) ∧ h' = (ms G g (t_rack σ r k n), nn)) := by
  refine zc.of (by decide) (Nat.le_of_ble_eq_true rfl) ?_
  refine zv_iload_n dX8_rack_0 rfl ?_
  refine zv_callSq (mc := 0) (ms := 0) zm_X8_57 zkyX8_no cM_no rfl rfl (Nat.le_of_ble_eq_true rfl) (by decide) dX8_rack_1 ?_
  refine zv_if_eq (tgt := 9) dX8_rack_4 (by decide) (fun c4 => ?_) (fun c4 => ?_)
  · skip
    refine zv_iload_n dX8_rack_9 rfl ?_
    refine zv_i2l dX8_rack_10 ?_
    refine zv_lconstv (v := 0) dX8_rack_11 (by decide) ?_
    refine zv_ldc2 dX8_rack_12 zq_X8_61 ?_
    refine zv_callSq (mc := 0) (ms := 0) zm_X8_42 zkyX8_beyond cM_beyond rfl rfl (Nat.le_of_ble_eq_true rfl) (by decide) dX8_rack_15 ?_
    refine zv_if_ne (tgt := 33) dX8_rack_18 (by decide) (fun c18 => ?_) (fun c18 => ?_)
    · skip
      refine zv_bipushv (v := (-2)) dX8_rack_33 (by decide) ?_
      exact zv_ireturn dX8_rack_35 rfl (by refine ⟨?_, ?_⟩ <;> simp_all [-Int32.not_lt, -Int32.not_le, ← Int32.not_lt, xT, xW, xK, xS, xF, xP, zb_0, zb_n, out_bey, bey_9, bey_10, bey_16, bey_7, bey_4, bey_5, bey_3, bey_m, bey_e, a_rack, t_rack, sa])
    · skip
      refine zv_iload_n dX8_rack_21 rfl ?_
      refine zv_i2l dX8_rack_22 ?_
      refine zv_lconstv (v := 0) dX8_rack_23 (by decide) ?_
      refine zv_ldc2 dX8_rack_24 zq_X8_63 ?_
      refine zv_callSq (mc := 0) (ms := 0) zm_X8_42 zkyX8_beyond cM_beyond rfl rfl (Nat.le_of_ble_eq_true rfl) (by decide) dX8_rack_27 ?_
      refine zv_if_eq (tgt := 36) dX8_rack_30 (by decide) (fun c30 => ?_) (fun c30 => ?_)
      · skip
        refine zv_aload_n dX8_rack_36 rfl ?_
        refine zM_get hn zf_X8_7_6 rfl dX8_rack_37 ?_
        refine zv_iload_n dX8_rack_40 rfl ?_
        refine zv_iconstv (v := 3) dX8_rack_41 (by decide) ?_
        refine zM_ast0 hn (no_in (zb_0.mp (by assumption))) dX8_rack_42 ?_
        refine zv_aload_n dX8_rack_43 rfl ?_
        refine zM_get hn zf_X8_13_6 rfl dX8_rack_44 ?_
        refine zv_iload_n dX8_rack_47 rfl ?_
        refine zv_aload_n dX8_rack_48 rfl ?_
        refine zv_iload_n dX8_rack_49 rfl ?_
        refine zv_iload_n dX8_rack_50 rfl ?_
        refine zM_callg hn zm_X8_65 zkyX8_newRow rfl (cM_newRow hn (σ := sa σ 0 r.toNatClampNeg 3) hr hR) rfl rfl (Nat.le_of_ble_eq_true rfl) (by decide) dX8_rack_51 (fun σ51 e51 => ?_)
        refine zM_ast1 hn (no_in (zb_0.mp (by assumption))) dX8_rack_54 ?_
        refine zv_iload_n dX8_rack_55 rfl ?_
        exact zv_ireturn dX8_rack_56 rfl (by refine ⟨?_, ?_⟩ <;> simp_all [-Int32.not_lt, -Int32.not_le, ← Int32.not_lt, xT, xW, xK, xS, xF, xP, zb_0, zb_n, out_bey, bey_9, bey_10, bey_16, bey_7, bey_4, bey_5, bey_3, bey_m, bey_e, a_rack, t_rack, sa])
      · skip
        refine zv_bipushv (v := (-2)) dX8_rack_33 (by decide) ?_
        exact zv_ireturn dX8_rack_35 rfl (by refine ⟨?_, ?_⟩ <;> simp_all [-Int32.not_lt, -Int32.not_le, ← Int32.not_lt, xT, xW, xK, xS, xF, xP, zb_0, zb_n, out_bey, bey_9, bey_10, bey_16, bey_7, bey_4, bey_5, bey_3, bey_m, bey_e, a_rack, t_rack, sa])
  · skip
    refine zv_iconstv (v := (-1)) dX8_rack_7 (by decide) ?_
    exact zv_ireturn dX8_rack_8 rfl (by refine ⟨?_, ?_⟩ <;> simp_all [-Int32.not_lt, -Int32.not_le, ← Int32.not_lt, xT, xW, xK, xS, xF, xP, zb_0, zb_n, out_bey, bey_9, bey_10, bey_16, bey_7, bey_4, bey_5, bey_3, bey_m, bey_e, a_rack, t_rack, sa])
set_option maxRecDepth 20000 in
set_option maxHeartbeats 1000000 in
theorem cM_line {G : zh_G} {l : Launch} {g : Nat → va_E} {nn : Nat} {σ : sg} (hn : zg_B G + 28 ≤ nn) {n : Int32} {R : Nat} (hr : σ.1 8 = nI R) (hR : R < 5000) : zc G l yX8_line cX8_line 2 (some .int) 1 [.ref (zg_B G + 18), .int n] (ms G g σ, nn) 0 0 (fun o h' => o = some (.int (a_line n)) ∧ h' = (ms G g (t_line σ n), nn)) := by
  refine zc.of (by decide) (Nat.le_of_ble_eq_true rfl) ?_
  refine zv_iload_n dX8_line_0 rfl ?_
  refine zv_i2l dX8_line_1 ?_
  refine zv_lconstv (v := 0) dX8_line_2 (by decide) ?_
  refine zv_ldc2 dX8_line_3 zq_X8_95 ?_
  refine zv_callSq (mc := 0) (ms := 0) zm_X8_42 zkyX8_beyond cM_beyond rfl rfl (Nat.le_of_ble_eq_true rfl) (by decide) dX8_line_6 ?_
  refine zv_if_eq (tgt := 15) dX8_line_9 (by decide) (fun c9 => ?_) (fun c9 => ?_)
  · skip
    refine zv_aload_n dX8_line_15 rfl ?_
    refine zv_iconstv (v := 3) dX8_line_16 (by decide) ?_
    refine zM_put2 hn zfw_X8_69_6 dX8_line_17 ?_
    refine zv_aload_n dX8_line_20 rfl ?_
    refine zv_aload_n dX8_line_21 rfl ?_
    refine zv_iconstv (v := 4) dX8_line_22 (by decide) ?_
    refine zv_iload_n dX8_line_23 rfl ?_
    refine zM_callg hn zm_X8_65 zkyX8_newRow rfl (cM_newRow hn (σ := si σ 2 3) hr hR) rfl rfl (Nat.le_of_ble_eq_true rfl) (by decide) dX8_line_24 (fun σ24 e24 => ?_)
    refine zM_put5 hn zfw_X8_72_6 dX8_line_27 ?_
    refine zv_iconstv (v := 1) dX8_line_30 (by decide) ?_
    exact zv_ireturn dX8_line_31 rfl (by refine ⟨?_, ?_⟩ <;> simp_all [-Int32.not_lt, -Int32.not_le, ← Int32.not_lt, xT, xW, xK, xS, xF, xP, zb_0, zb_n, out_bey, bey_9, bey_10, bey_16, bey_7, bey_4, bey_5, bey_3, bey_m, bey_e, a_line, t_line, si, upd])
  · skip
    refine zv_bipushv (v := (-2)) dX8_line_12 (by decide) ?_
    exact zv_ireturn dX8_line_14 rfl (by refine ⟨?_, ?_⟩ <;> simp_all [-Int32.not_lt, -Int32.not_le, ← Int32.not_lt, xT, xW, xK, xS, xF, xP, zb_0, zb_n, out_bey, bey_9, bey_10, bey_16, bey_7, bey_4, bey_5, bey_3, bey_m, bey_e, a_line, t_line, si, upd])
end
section
set_option maxRecDepth 20000 in
set_option maxHeartbeats 1000000 in
theorem cM_kinds_l {G : zh_G} {l : Launch} {g : Nat → va_E} {nn : Nat} (hn : zg_B G + 28 ≤ nn) {σ : sg} {r w : Int32} {Q : Option Value → zh_H → Prop} (hr : vp_in r 10) (hq : vp_in (xW σ r) 5000) : ∀ (m j : Nat) (acc : Int32), j + m = 8 → (∀ acc2 : Int32, acc2 = s_bits (s_kp (decide (¬ w = 0)) (xK σ (xW σ r))) m j acc → zv G l yX8_kinds cX8_kinds 7 (some .int) 2 0 0 89 [(4, .int acc2), (3, .int 0), (0, .ref (zg_B G + 18)), (1, .int r), (2, .int w)] [] (ms G g σ, nn) Q) → zv G l yX8_kinds cX8_kinds 7 (some .int) 2 0 0 12 [(5, .int (nI j)), (4, .int acc), (3, .int 0), (0, .ref (zg_B G + 18)), (1, .int r), (2, .int w)] [] (ms G g σ, nn) Q := by
  intro m
  induction m with
  | zero =>
    intro j acc hj kx
    have hj : j = 8 := by omega
    subst hj
    refine zv_iload dX8_kinds_12 rfl ?_
    refine zv_bipushv (v := 8) dX8_kinds_14 (by decide) ?_
    exact zv_icmp_ge (tgt := 89) dX8_kinds_16 (by decide) (fun _ => zv_lv _ (by simp) (kx acc rfl)) (fun c => absurd (by decide) c)
  | succ m ih =>
    intro j acc hj kx
    refine zv_iload dX8_kinds_12 rfl ?_
    refine zv_bipushv (v := 8) dX8_kinds_14 (by decide) ?_
    refine zv_icmp_ge (tgt := 89) dX8_kinds_16 (by decide) (fun c16 => ?_) (fun c16 => ?_)
    · exact absurd c16 (by rw [show (8 : Int32) = nI 8 from rfl]; exact nI_ge (by omega) (by decide))
    · skip
      refine zv_iload_n dX8_kinds_19 rfl ?_
      refine zv_if_ne (tgt := 89) dX8_kinds_20 (by decide) (fun c20 => ?_) (fun c20 => ?_)
      · exact absurd rfl c20
      · skip
        refine zv_aload_n dX8_kinds_23 rfl ?_
        refine zM_get hn zf_X8_20_6 rfl dX8_kinds_24 ?_
        refine zv_aload_n dX8_kinds_27 rfl ?_
        refine zM_get hn zf_X8_13_6 rfl dX8_kinds_28 ?_
        refine zv_iload_n dX8_kinds_31 rfl ?_
        refine zM_ald1 hn (by first | with_reducible exact hr | with_reducible exact hq) dX8_kinds_32 ?_
        refine zM_ald9 hn (by first | with_reducible exact hr | with_reducible exact hq) dX8_kinds_33 ?_
        refine zv_istore dX8_kinds_34 (by decide) ?_
        refine zv_iload dX8_kinds_36 rfl ?_
        refine zv_iload dX8_kinds_38 rfl ?_
        refine zv_bipushv (v := 8) dX8_kinds_40 (by decide) ?_
        refine zv_icmp_ge (tgt := 79) dX8_kinds_42 (by decide) (fun c42 => ?_) (fun c42 => ?_)
        · skip
          refine zv_iconstv (v := 0) dX8_kinds_79 (by decide) ?_
          refine zv_ior dX8_kinds_80 ?_
          refine zv_istore dX8_kinds_81 (by decide) ?_
          refine zv_iinc dX8_kinds_83 rfl (by decide) ?_
          refine zv_goto (tgt := 12) dX8_kinds_86 (by decide) ?_
          have hp : s_kp (decide (¬ w = 0)) (xK σ (xW σ r)) j = false := by simp_all [-Int32.not_lt, -Int32.not_le, ← Int32.not_lt, s_kp, zb_0, zb_n]
          refine zv_lv [(5, .int (nI (j + 1))), (4, .int (acc ||| 0)), (3, .int 0), (0, .ref (zg_B G + 18)), (1, .int r), (2, .int w)] (by simp [zs1, Value.category, nI_succ]) ?_
          exact ih (j + 1) _ (by omega) (fun acc2 e2 => kx acc2 (by rw [e2]; show _ = s_bits _ m (j + 1) (acc ||| (if s_kp (decide (¬ w = 0)) (xK σ (xW σ r)) j = true then (1 : Int32) <<< (nI j &&& 31) else 0)); rw [hp]; rfl))
        · skip
          refine zv_iload_n dX8_kinds_45 rfl ?_
          refine zv_if_eq (tgt := 62) dX8_kinds_46 (by decide) (fun c46 => ?_) (fun c46 => ?_)
          · skip
            refine zv_iload dX8_kinds_62 rfl ?_
            refine zv_iload dX8_kinds_64 rfl ?_
            refine zv_callSq (mc := 0) (ms := 0) zm_X8_100 zkyX8_goes cM_goes rfl rfl (Nat.le_of_ble_eq_true rfl) (by decide) dX8_kinds_66 ?_
            refine zv_if_eq (tgt := 79) dX8_kinds_69 (by decide) (fun c69 => ?_) (fun c69 => ?_)
            · skip
              refine zv_iconstv (v := 0) dX8_kinds_79 (by decide) ?_
              refine zv_ior dX8_kinds_80 ?_
              refine zv_istore dX8_kinds_81 (by decide) ?_
              refine zv_iinc dX8_kinds_83 rfl (by decide) ?_
              refine zv_goto (tgt := 12) dX8_kinds_86 (by decide) ?_
              have hp : s_kp (decide (¬ w = 0)) (xK σ (xW σ r)) j = false := by simp_all [-Int32.not_lt, -Int32.not_le, ← Int32.not_lt, s_kp, zb_0, zb_n]
              refine zv_lv [(5, .int (nI (j + 1))), (4, .int (acc ||| 0)), (3, .int 0), (0, .ref (zg_B G + 18)), (1, .int r), (2, .int w)] (by simp [zs1, Value.category, nI_succ]) ?_
              exact ih (j + 1) _ (by omega) (fun acc2 e2 => kx acc2 (by rw [e2]; show _ = s_bits _ m (j + 1) (acc ||| (if s_kp (decide (¬ w = 0)) (xK σ (xW σ r)) j = true then (1 : Int32) <<< (nI j &&& 31) else 0)); rw [hp]; rfl))
            · skip
              refine zv_iconstv (v := 1) dX8_kinds_72 (by decide) ?_
              refine zv_iload dX8_kinds_73 rfl ?_
              refine zv_ishl dX8_kinds_75 ?_
              refine zv_goto (tgt := 80) dX8_kinds_76 (by decide) ?_
              refine zv_ior dX8_kinds_80 ?_
              refine zv_istore dX8_kinds_81 (by decide) ?_
              refine zv_iinc dX8_kinds_83 rfl (by decide) ?_
              refine zv_goto (tgt := 12) dX8_kinds_86 (by decide) ?_
              have hp : s_kp (decide (¬ w = 0)) (xK σ (xW σ r)) j = true := by simp_all [-Int32.not_lt, -Int32.not_le, ← Int32.not_lt, s_kp, zb_0, zb_n]
              refine zv_lv [(5, .int (nI (j + 1))), (4, .int (acc ||| ((1 : Int32) <<< (nI j &&& 31)))), (3, .int 0), (0, .ref (zg_B G + 18)), (1, .int r), (2, .int w)] (by simp [zs1, Value.category, nI_succ]) ?_
              exact ih (j + 1) _ (by omega) (fun acc2 e2 => kx acc2 (by rw [e2]; show _ = s_bits _ m (j + 1) (acc ||| (if s_kp (decide (¬ w = 0)) (xK σ (xW σ r)) j = true then (1 : Int32) <<< (nI j &&& 31) else 0)); rw [hp]; rfl))
          · skip
            refine zv_iload dX8_kinds_49 rfl ?_
            refine zv_iload dX8_kinds_51 rfl ?_
            refine zv_callSq (mc := 0) (ms := 0) zm_X8_100 zkyX8_goes cM_goes rfl rfl (Nat.le_of_ble_eq_true rfl) (by decide) dX8_kinds_53 ?_
            refine zv_if_eq (tgt := 79) dX8_kinds_56 (by decide) (fun c56 => ?_) (fun c56 => ?_)
            · skip
              refine zv_iconstv (v := 0) dX8_kinds_79 (by decide) ?_
              refine zv_ior dX8_kinds_80 ?_
              refine zv_istore dX8_kinds_81 (by decide) ?_
              refine zv_iinc dX8_kinds_83 rfl (by decide) ?_
              refine zv_goto (tgt := 12) dX8_kinds_86 (by decide) ?_
              have hp : s_kp (decide (¬ w = 0)) (xK σ (xW σ r)) j = false := by simp_all [-Int32.not_lt, -Int32.not_le, ← Int32.not_lt, s_kp, zb_0, zb_n]
              refine zv_lv [(5, .int (nI (j + 1))), (4, .int (acc ||| 0)), (3, .int 0), (0, .ref (zg_B G + 18)), (1, .int r), (2, .int w)] (by simp [zs1, Value.category, nI_succ]) ?_
              exact ih (j + 1) _ (by omega) (fun acc2 e2 => kx acc2 (by rw [e2]; show _ = s_bits _ m (j + 1) (acc ||| (if s_kp (decide (¬ w = 0)) (xK σ (xW σ r)) j = true then (1 : Int32) <<< (nI j &&& 31) else 0)); rw [hp]; rfl))
            · skip
              refine zv_goto (tgt := 72) dX8_kinds_59 (by decide) ?_
              refine zv_iconstv (v := 1) dX8_kinds_72 (by decide) ?_
              refine zv_iload dX8_kinds_73 rfl ?_
              refine zv_ishl dX8_kinds_75 ?_
              refine zv_goto (tgt := 80) dX8_kinds_76 (by decide) ?_
              refine zv_ior dX8_kinds_80 ?_
              refine zv_istore dX8_kinds_81 (by decide) ?_
              refine zv_iinc dX8_kinds_83 rfl (by decide) ?_
              refine zv_goto (tgt := 12) dX8_kinds_86 (by decide) ?_
              have hp : s_kp (decide (¬ w = 0)) (xK σ (xW σ r)) j = true := by simp_all [-Int32.not_lt, -Int32.not_le, ← Int32.not_lt, s_kp, zb_0, zb_n]
              refine zv_lv [(5, .int (nI (j + 1))), (4, .int (acc ||| ((1 : Int32) <<< (nI j &&& 31)))), (3, .int 0), (0, .ref (zg_B G + 18)), (1, .int r), (2, .int w)] (by simp [zs1, Value.category, nI_succ]) ?_
              exact ih (j + 1) _ (by omega) (fun acc2 e2 => kx acc2 (by rw [e2]; show _ = s_bits _ m (j + 1) (acc ||| (if s_kp (decide (¬ w = 0)) (xK σ (xW σ r)) j = true then (1 : Int32) <<< (nI j &&& 31) else 0)); rw [hp]; rfl))
theorem fiF_3 {σ : sg} {r : Int32} (h : s_fiF σ r = 0) : xT σ r = 3 := by
  unfold s_fiF at h
  by_cases h1 : s_szF σ r ≤ 0
  · exact szF_3 h1
  · rw [if_neg h1] at h; exact absurd (by rw [h]; decide) h1
theorem fiF_eq (σ : sg) (r : Int32) : (if 0 < s_szF σ r then s_szF σ r else if xS σ (xW σ r) = 0 then 3 else 0) = s_fiF σ r := by
  unfold s_fiF
  by_cases h : s_szF σ r ≤ 0
  · rw [if_pos h, if_neg (Int32.not_lt.mpr h)]
  · rw [if_neg h, if_pos (Int32.not_le.mp h)]
set_option maxRecDepth 20000 in
set_option maxHeartbeats 1000000 in
theorem cM_kinds {G : zh_G} {l : Launch} {g : Nat → va_E} {nn : Nat} {σ : sg} (hn : zg_B G + 28 ≤ nn) {r w : Int32} (hr : vp_in r 10) (hq : xT σ r = 3 → rk σ (xW σ r)) : zc G l yX8_kinds cX8_kinds 7 (some .int) 2 [.ref (zg_B G + 18), .int r, .int w] (ms G g σ, nn) 0 0 (fun o h' => o = some (.int (s_ans (s_fiF σ r) (if s_fiF σ r = 0 then s_bits (s_kp (decide (¬ w = 0)) (xK σ (xW σ r))) 8 0 0 else 0))) ∧ h' = (ms G g (s_ansS σ (s_fiF σ r)), nn)) := by
  refine zc.of (by decide) (Nat.le_of_ble_eq_true rfl) ?_
  refine zv_aload_n dX8_kinds_0 rfl ?_
  refine zv_iload_n dX8_kinds_1 rfl ?_
  refine zM_call hn zm_X8_159 zkyX8_firstFault rfl (cM_firstFault hn hr hq) rfl rfl (Nat.le_of_ble_eq_true rfl) (by decide) dX8_kinds_2 ?_
  refine zv_istore_n dX8_kinds_5 (by decide) ?_
  refine zv_iconstv (v := 0) dX8_kinds_6 (by decide) ?_
  refine zv_istore dX8_kinds_7 (by decide) ?_
  refine zv_iconstv (v := 0) dX8_kinds_9 (by decide) ?_
  refine zv_istore dX8_kinds_10 (by decide) ?_
  rw [fiF_eq]
  by_cases h0 : s_fiF σ r = 0
  · rw [h0]
    refine zv_lv [(5, .int (nI 0)), (4, .int 0), (3, .int 0), (0, .ref (zg_B G + 18)), (1, .int r), (2, .int w)] (by simp [zs1, lv_args, Value.category, nI_0, show ((3 : Fin 4) : Nat) = 3 from rfl, show ((2 : Fin 4) : Nat) = 2 from rfl]) ?_
    refine cM_kinds_l hn hr (rk_i (hq (fiF_3 h0))) 8 0 0 rfl (fun acc2 e2 => ?_)
    refine zv_aload_n dX8_kinds_89 rfl ?_
    refine zv_iload_n dX8_kinds_90 rfl ?_
    refine zv_iload dX8_kinds_91 rfl ?_
    refine zM_call hn zm_X8_121 zkyX8_answer rfl (cM_answer hn (fun h => absurd (by decide) h)) rfl rfl (Nat.le_of_ble_eq_true rfl) (by decide) dX8_kinds_93 ?_
    exact zv_ireturn dX8_kinds_96 rfl (by simp [e2])
  · skip
    refine zv_iload dX8_kinds_12 rfl ?_
    refine zv_bipushv (v := 8) dX8_kinds_14 (by decide) ?_
    refine zv_icmp_ge (tgt := 89) dX8_kinds_16 (by decide) (fun c16 => ?_) (fun c16 => ?_)
    · exact absurd c16 (by decide)
    · skip
      refine zv_iload_n dX8_kinds_19 rfl ?_
      refine zv_if_ne (tgt := 89) dX8_kinds_20 (by decide) (fun c20 => ?_) (fun c20 => ?_)
      · skip
        refine zv_aload_n dX8_kinds_89 rfl ?_
        refine zv_iload_n dX8_kinds_90 rfl ?_
        refine zv_iload dX8_kinds_91 rfl ?_
        refine zM_call hn zm_X8_121 zkyX8_answer rfl (cM_answer hn (fun _ => fiF_in _ _)) rfl rfl (Nat.le_of_ble_eq_true rfl) (by decide) dX8_kinds_93 ?_
        exact zv_ireturn dX8_kinds_96 rfl (by simp [h0])
      · exact absurd c20 h0
set_option maxRecDepth 20000 in
set_option maxHeartbeats 1000000 in
theorem cM_takes {G : zh_G} {l : Launch} {g : Nat → va_E} {nn : Nat} {σ : sg} (hn : zg_B G + 28 ≤ nn) {r : Int32} (ho : okG σ) : zc G l yX8_takes cX8_takes 2 (some .int) 3 [.ref (zg_B G + 18), .int r] (ms G g σ, nn) 0 0 (fun o h' => o = some (.int (a_kinds σ r true)) ∧ h' = (ms G g (t_kinds σ r), nn)) := by
  refine zc.of (by decide) (Nat.le_of_ble_eq_true rfl) ?_
  refine zv_iload_n dX8_takes_0 rfl ?_
  refine zv_callSq (mc := 0) (ms := 0) zm_X8_57 zkyX8_no cM_no rfl rfl (Nat.le_of_ble_eq_true rfl) (by decide) dX8_takes_1 ?_
  refine zv_if_eq (tgt := 11) dX8_takes_4 (by decide) (fun c4 => ?_) (fun c4 => ?_)
  · skip
    refine zv_aload_n dX8_takes_11 rfl ?_
    refine zv_iload_n dX8_takes_12 rfl ?_
    refine zv_iconstv (v := 1) dX8_takes_13 (by decide) ?_
    refine zM_call hn zm_X8_162 zkyX8_kinds rfl (cM_kinds hn (w := 1) (no_in (zb_0.mp (by assumption))) (ho.1.1 _ (no_in (zb_0.mp (by assumption))))) rfl rfl (Nat.le_of_ble_eq_true rfl) (by decide) dX8_takes_14 ?_
    exact zv_ireturn dX8_takes_17 rfl (by refine ⟨?_, ?_⟩ <;> simp_all [-Int32.not_lt, -Int32.not_le, ← Int32.not_lt, xT, xW, xK, xS, xF, xP, zb_0, zb_n, out_bey, bey_9, bey_10, bey_16, bey_7, bey_4, bey_5, bey_3, bey_m, bey_e, a_kinds, t_kinds])
  · skip
    refine zv_iconstv (v := (-1)) dX8_takes_7 (by decide) ?_
    refine zv_goto (tgt := 17) dX8_takes_8 (by decide) ?_
    exact zv_ireturn dX8_takes_17 rfl (by refine ⟨?_, ?_⟩ <;> simp_all [-Int32.not_lt, -Int32.not_le, ← Int32.not_lt, xT, xW, xK, xS, xF, xP, zb_0, zb_n, out_bey, bey_9, bey_10, bey_16, bey_7, bey_4, bey_5, bey_3, bey_m, bey_e, a_kinds, t_kinds])
set_option maxRecDepth 20000 in
set_option maxHeartbeats 1000000 in
theorem cM_gives {G : zh_G} {l : Launch} {g : Nat → va_E} {nn : Nat} {σ : sg} (hn : zg_B G + 28 ≤ nn) {r : Int32} (ho : okG σ) : zc G l yX8_gives cX8_gives 2 (some .int) 3 [.ref (zg_B G + 18), .int r] (ms G g σ, nn) 0 0 (fun o h' => o = some (.int (a_kinds σ r false)) ∧ h' = (ms G g (t_kinds σ r), nn)) := by
  refine zc.of (by decide) (Nat.le_of_ble_eq_true rfl) ?_
  refine zv_iload_n dX8_gives_0 rfl ?_
  refine zv_callSq (mc := 0) (ms := 0) zm_X8_57 zkyX8_no cM_no rfl rfl (Nat.le_of_ble_eq_true rfl) (by decide) dX8_gives_1 ?_
  refine zv_if_eq (tgt := 11) dX8_gives_4 (by decide) (fun c4 => ?_) (fun c4 => ?_)
  · skip
    refine zv_aload_n dX8_gives_11 rfl ?_
    refine zv_iload_n dX8_gives_12 rfl ?_
    refine zv_iconstv (v := 0) dX8_gives_13 (by decide) ?_
    refine zM_call hn zm_X8_162 zkyX8_kinds rfl (cM_kinds hn (w := 0) (no_in (zb_0.mp (by assumption))) (ho.1.1 _ (no_in (zb_0.mp (by assumption))))) rfl rfl (Nat.le_of_ble_eq_true rfl) (by decide) dX8_gives_14 ?_
    exact zv_ireturn dX8_gives_17 rfl (by refine ⟨?_, ?_⟩ <;> simp_all [-Int32.not_lt, -Int32.not_le, ← Int32.not_lt, xT, xW, xK, xS, xF, xP, zb_0, zb_n, out_bey, bey_9, bey_10, bey_16, bey_7, bey_4, bey_5, bey_3, bey_m, bey_e, a_kinds, t_kinds])
  · skip
    refine zv_iconstv (v := (-1)) dX8_gives_7 (by decide) ?_
    refine zv_goto (tgt := 17) dX8_gives_8 (by decide) ?_
    exact zv_ireturn dX8_gives_17 rfl (by refine ⟨?_, ?_⟩ <;> simp_all [-Int32.not_lt, -Int32.not_le, ← Int32.not_lt, xT, xW, xK, xS, xF, xP, zb_0, zb_n, out_bey, bey_9, bey_10, bey_16, bey_7, bey_4, bey_5, bey_3, bey_m, bey_e, a_kinds, t_kinds])
set_option maxRecDepth 20000 in
set_option maxHeartbeats 1000000 in
theorem cM_same_l {G : zh_G} {l : Launch} {g : Nat → va_E} {nn : Nat} (hn : zg_B G + 28 ≤ nn) {σ : sg} {r : Int32} (hr : vp_in r 10) : ∀ (m j : Nat) (acc : Int32), j + m = 10 → zv G l yX8_same cX8_same 4 (some .int) 2 0 0 13 [(3, .int (nI j)), (2, .int acc), (0, .ref (zg_B G + 18)), (1, .int r)] [] (ms G g σ, nn) (fun o h' => o = some (.int (s_cnt (s_sm σ r) m j acc)) ∧ h' = (ms G g σ, nn)) := by
  intro m
  induction m with
  | zero =>
    intro j acc hj
    have hj : j = 10 := by omega
    subst hj
    refine zv_iload_n dX8_same_13 rfl ?_
    refine zv_bipushv (v := 10) dX8_same_14 (by decide) ?_
    refine zv_icmp_ge (tgt := 72) dX8_same_16 (by decide) (fun _ => ?_) (fun c => absurd (by decide) c)
    refine zv_iload_n dX8_same_72 rfl ?_
    exact zv_ireturn dX8_same_73 rfl ⟨rfl, rfl⟩
  | succ m ih =>
    intro j acc hj
    have hjj : vp_in (nI j) 10 := vp_in_nI (by omega) (by decide)
    refine zv_iload_n dX8_same_13 rfl ?_
    refine zv_bipushv (v := 10) dX8_same_14 (by decide) ?_
    refine zv_icmp_ge (tgt := 72) dX8_same_16 (by decide) (fun c16 => ?_) (fun c16 => ?_)
    · exact absurd c16 (by rw [show (10 : Int32) = nI 10 from rfl]; exact nI_ge (by omega) (by decide))
    · skip
      refine zv_iload_n dX8_same_19 rfl ?_
      refine zv_aload_n dX8_same_20 rfl ?_
      refine zM_get hn zf_X8_7_6 rfl dX8_same_21 ?_
      refine zv_iload_n dX8_same_24 rfl ?_
      refine zM_ald0 hn (by first | with_reducible exact hr | with_reducible exact hjj) dX8_same_25 ?_
      refine zv_if_le (tgt := 63) dX8_same_26 (by decide) (fun c26 => ?_) (fun c26 => ?_)
      · skip
        refine zv_iconstv (v := 0) dX8_same_63 (by decide) ?_
        refine zv_iadd dX8_same_64 ?_
        refine zv_istore_n dX8_same_65 (by decide) ?_
        refine zv_iinc dX8_same_66 rfl (by decide) ?_
        refine zv_goto (tgt := 13) dX8_same_69 (by decide) ?_
        have hp : s_sm σ r j = false := by simp_all [-Int32.not_lt, -Int32.not_le, ← Int32.not_lt, s_sm, nI_clamp (show j < 2 ^ 31 by omega)]
        refine zv_lv [(3, .int (nI (j + 1))), (2, .int (acc + 0)), (0, .ref (zg_B G + 18)), (1, .int r)] (by simp [zs1, Value.category, nI_succ]) ?_
        have z := ih (j + 1) (acc + 0) (by omega)
        rw [show s_cnt (s_sm σ r) (m + 1) j acc = s_cnt (s_sm σ r) m (j + 1) (acc + 0) from by show s_cnt _ m (j + 1) (acc + (if s_sm σ r j = true then 1 else 0)) = _; rw [hp]; rfl]
        exact z
      · skip
        refine zv_aload_n dX8_same_29 rfl ?_
        refine zM_get hn zf_X8_7_6 rfl dX8_same_30 ?_
        refine zv_iload_n dX8_same_33 rfl ?_
        refine zM_ald0 hn (by first | with_reducible exact hr | with_reducible exact hjj) dX8_same_34 ?_
        refine zv_aload_n dX8_same_35 rfl ?_
        refine zM_get hn zf_X8_7_6 rfl dX8_same_36 ?_
        refine zv_iload_n dX8_same_39 rfl ?_
        refine zM_ald0 hn (by first | with_reducible exact hr | with_reducible exact hjj) dX8_same_40 ?_
        refine zv_icmp_ne (tgt := 63) dX8_same_41 (by decide) (fun c41 => ?_) (fun c41 => ?_)
        · skip
          refine zv_iconstv (v := 0) dX8_same_63 (by decide) ?_
          refine zv_iadd dX8_same_64 ?_
          refine zv_istore_n dX8_same_65 (by decide) ?_
          refine zv_iinc dX8_same_66 rfl (by decide) ?_
          refine zv_goto (tgt := 13) dX8_same_69 (by decide) ?_
          have hp : s_sm σ r j = false := by simp_all [-Int32.not_lt, -Int32.not_le, ← Int32.not_lt, s_sm, nI_clamp (show j < 2 ^ 31 by omega)]
          refine zv_lv [(3, .int (nI (j + 1))), (2, .int (acc + 0)), (0, .ref (zg_B G + 18)), (1, .int r)] (by simp [zs1, Value.category, nI_succ]) ?_
          have z := ih (j + 1) (acc + 0) (by omega)
          rw [show s_cnt (s_sm σ r) (m + 1) j acc = s_cnt (s_sm σ r) m (j + 1) (acc + 0) from by show s_cnt _ m (j + 1) (acc + (if s_sm σ r j = true then 1 else 0)) = _; rw [hp]; rfl]
          exact z
        · skip
          refine zv_aload_n dX8_same_44 rfl ?_
          refine zM_get hn zf_X8_13_6 rfl dX8_same_45 ?_
          refine zv_iload_n dX8_same_48 rfl ?_
          refine zM_ald1 hn (by first | with_reducible exact hr | with_reducible exact hjj) dX8_same_49 ?_
          refine zv_aload_n dX8_same_50 rfl ?_
          refine zM_get hn zf_X8_13_6 rfl dX8_same_51 ?_
          refine zv_iload_n dX8_same_54 rfl ?_
          refine zM_ald1 hn (by first | with_reducible exact hr | with_reducible exact hjj) dX8_same_55 ?_
          refine zv_icmp_ne (tgt := 63) dX8_same_56 (by decide) (fun c56 => ?_) (fun c56 => ?_)
          · skip
            refine zv_iconstv (v := 0) dX8_same_63 (by decide) ?_
            refine zv_iadd dX8_same_64 ?_
            refine zv_istore_n dX8_same_65 (by decide) ?_
            refine zv_iinc dX8_same_66 rfl (by decide) ?_
            refine zv_goto (tgt := 13) dX8_same_69 (by decide) ?_
            have hp : s_sm σ r j = false := by simp_all [-Int32.not_lt, -Int32.not_le, ← Int32.not_lt, s_sm, nI_clamp (show j < 2 ^ 31 by omega)]
            refine zv_lv [(3, .int (nI (j + 1))), (2, .int (acc + 0)), (0, .ref (zg_B G + 18)), (1, .int r)] (by simp [zs1, Value.category, nI_succ]) ?_
            have z := ih (j + 1) (acc + 0) (by omega)
            rw [show s_cnt (s_sm σ r) (m + 1) j acc = s_cnt (s_sm σ r) m (j + 1) (acc + 0) from by show s_cnt _ m (j + 1) (acc + (if s_sm σ r j = true then 1 else 0)) = _; rw [hp]; rfl]
            exact z
          · skip
            refine zv_iconstv (v := 1) dX8_same_59 (by decide) ?_
            refine zv_goto (tgt := 64) dX8_same_60 (by decide) ?_
            refine zv_iadd dX8_same_64 ?_
            refine zv_istore_n dX8_same_65 (by decide) ?_
            refine zv_iinc dX8_same_66 rfl (by decide) ?_
            refine zv_goto (tgt := 13) dX8_same_69 (by decide) ?_
            have hp : s_sm σ r j = true := by simp_all [-Int32.not_lt, -Int32.not_le, ← Int32.not_lt, s_sm, nI_clamp (show j < 2 ^ 31 by omega)]
            refine zv_lv [(3, .int (nI (j + 1))), (2, .int (acc + 1)), (0, .ref (zg_B G + 18)), (1, .int r)] (by simp [zs1, Value.category, nI_succ]) ?_
            have z := ih (j + 1) (acc + 1) (by omega)
            rw [show s_cnt (s_sm σ r) (m + 1) j acc = s_cnt (s_sm σ r) m (j + 1) (acc + 1) from by show s_cnt _ m (j + 1) (acc + (if s_sm σ r j = true then 1 else 0)) = _; rw [hp]; rfl]
            exact z
set_option maxRecDepth 20000 in
set_option maxHeartbeats 1000000 in
theorem cM_same {G : zh_G} {l : Launch} {g : Nat → va_E} {nn : Nat} {σ : sg} (hn : zg_B G + 28 ≤ nn) {r : Int32} : zc G l yX8_same cX8_same 4 (some .int) 2 [.ref (zg_B G + 18), .int r] (ms G g σ, nn) 0 0 (fun o h' => o = some (.int (a_same σ r)) ∧ h' = (ms G g σ, nn)) := by
  refine zc.of (by decide) (Nat.le_of_ble_eq_true rfl) ?_
  refine zv_iload_n dX8_same_0 rfl ?_
  refine zv_callSq (mc := 0) (ms := 0) zm_X8_57 zkyX8_no cM_no rfl rfl (Nat.le_of_ble_eq_true rfl) (by decide) dX8_same_1 ?_
  refine zv_if_eq (tgt := 9) dX8_same_4 (by decide) (fun c4 => ?_) (fun c4 => ?_)
  · skip
    refine zv_iconstv (v := 0) dX8_same_9 (by decide) ?_
    refine zv_istore_n dX8_same_10 (by decide) ?_
    refine zv_iconstv (v := 0) dX8_same_11 (by decide) ?_
    refine zv_istore_n dX8_same_12 (by decide) ?_
    have hs : s_no r = false := zb_0.mp (by assumption)
    refine zv_lv [(3, .int (nI 0)), (2, .int 0), (0, .ref (zg_B G + 18)), (1, .int r)] (by simp [zs1, lv_args, Value.category, nI_0, show ((3 : Fin 4) : Nat) = 3 from rfl, show ((2 : Fin 4) : Nat) = 2 from rfl]) ?_
    have z := cM_same_l (l := l) (g := g) hn (σ := σ) (no_in hs) 10 0 0 rfl
    rw [show a_same σ r = s_cnt (s_sm σ r) 10 0 0 from by simp [a_same, hs]]
    exact z
  · skip
    refine zv_iconstv (v := (-1)) dX8_same_7 (by decide) ?_
    exact zv_ireturn dX8_same_8 rfl (by refine ⟨?_, ?_⟩ <;> simp_all [-Int32.not_lt, -Int32.not_le, ← Int32.not_lt, xT, xW, xK, xS, xF, xP, zb_0, zb_n, out_bey, bey_9, bey_10, bey_16, bey_7, bey_4, bey_5, bey_3, bey_m, bey_e, a_same])
end
section
theorem writeS_a (σ : sg) (t q i of : Int32) (v : Int64) : (s_writeS σ t q i of v).2.2.1 = σ.2.2.1 := by unfold s_writeS; split <;> rfl
theorem writeS_n {σ : sg} {t q i of : Int32} {v : Int64} (h : ¬ s_wF σ t q i of ≤ 0) : s_writeS σ t q i of v = σ := by
  unfold s_writeS; rw [if_neg (fun e => h (by rw [e]; decide))]
theorem rk_cg {σ σ2 : sg} {q : Int32} (hA : σ2.2.2.1 = σ.2.2.1) (h : rk σ q) : rk σ2 q := by
  unfold rk xS at *; rw [hA]; exact h
theorem paF_n {σ : sg} {q t2 q2 k as : Int32} (h : ¬ s_rF σ 3 q k as ≤ 0) : s_paF σ q t2 q2 k as = s_rF σ 3 q k as := if_neg h
theorem paF_y {σ : sg} {q t2 q2 k as : Int32} (h : s_rF σ 3 q k as ≤ 0) : s_paF σ q t2 q2 k as = s_wF σ t2 q2 k as := if_pos h
theorem passL_n {σ : sg} {q t2 q2 as : Int32} {m k : Nat} (h : ¬ s_paF σ q t2 q2 (nI k) as ≤ 0) : s_passL q t2 q2 as (m + 1) k σ = (nI k, s_met1 σ (s_paF σ q t2 q2 (nI k) as)) := if_neg h
theorem out_nI {k S : Nat} (h : k < S) (hS : S ≤ 16) : s_out (nI k) (nI S) = false := by
  unfold s_out
  rw [decide_eq_false_iff_not, show (1 : Int32) = nI 1 from rfl, pk_sub (by omega)]
  rintro (h1 | h1)
  · exact nI_pos (by omega) h1
  · exact nI_nlt (a := S - 1) (b := k) (by omega) (by omega) h1
set_option maxRecDepth 20000 in
set_option maxHeartbeats 1000000 in
theorem cM_pass_l {G : zh_G} {l : Launch} {g : Nat → va_E} {nn : Nat} (hn : zg_B G + 28 ≤ nn) {r to as q t2 q2 : Int32} (hto : vp_in to 10) : ∀ (m k : Nat) (σ : sg) (f : Int32), rk σ q → (t2 = 3 → rk σ q2) → xT σ to = t2 → xW σ to = q2 → xS σ q = nI (k + m) → k + m ≤ 16 → zv G l yX8_pass cX8_pass 7 (some .int) 3 0 0 62 [(6, .int (nI k)), (5, .int q), (4, .int f), (0, .ref (zg_B G + 18)), (1, .int r), (2, .int to), (3, .int as)] [] (ms G g σ, nn) (fun o h' => o = some (.int (s_passL q t2 q2 as m k σ).1) ∧ h' = (ms G g (s_passL q t2 q2 as m k σ).2, nn)) := by
  intro m
  induction m with
  | zero =>
    intro k σ f hq hq2 ht hw hS h16
    refine zv_iload dX8_pass_62 rfl ?_
    refine zv_aload_n dX8_pass_64 rfl ?_
    refine zM_get hn zf_X8_23_6 rfl dX8_pass_65 ?_
    refine zv_iload dX8_pass_68 rfl ?_
    refine zM_ald10 hn (rk_i hq) dX8_pass_70 ?_
    refine zv_icmp_ge (tgt := 152) dX8_pass_71 (by decide) (fun _ => ?_) (fun c => absurd (by rw [show σ.2.2.1 10 q.toNatClampNeg = nI (k + 0) from hS]; exact Int32.le_refl _) c)
    refine zv_aload_n dX8_pass_152 rfl ?_
    refine zM_get hn zf_X8_23_6 rfl dX8_pass_153 ?_
    refine zv_iload dX8_pass_156 rfl ?_
    refine zM_ald10 hn (rk_i hq) dX8_pass_158 ?_
    exact zv_ireturn dX8_pass_159 rfl ⟨by rw [show σ.2.2.1 10 q.toNatClampNeg = nI (k + 0) from hS]; rfl, rfl⟩
  | succ m ih =>
    intro k σ f hq hq2 ht hw hS h16
    subst ht
    subst hw
    have hin16 : vp_in (16 * q + nI k) 80000 := rk_p hq _ (by rw [hS]; exact out_nI (by omega) h16)
    refine zv_iload dX8_pass_62 rfl ?_
    refine zv_aload_n dX8_pass_64 rfl ?_
    refine zM_get hn zf_X8_23_6 rfl dX8_pass_65 ?_
    refine zv_iload dX8_pass_68 rfl ?_
    refine zM_ald10 hn (by first | with_reducible exact hto | with_reducible exact rk_i hq | with_reducible exact hin16) dX8_pass_70 ?_
    refine zv_icmp_ge (tgt := 152) dX8_pass_71 (by decide) (fun c71 => ?_) (fun c71 => ?_)
    · exact absurd c71 (by rw [show σ.2.2.1 10 q.toNatClampNeg = nI (k + (m + 1)) from hS]; exact nI_ge (by omega) (by omega))
    · skip
      refine zv_aload_n dX8_pass_74 rfl ?_
      refine zv_iconstv (v := 3) dX8_pass_75 (by decide) ?_
      refine zv_iload dX8_pass_76 rfl ?_
      refine zv_iload dX8_pass_78 rfl ?_
      refine zv_iload_n dX8_pass_80 rfl ?_
      refine zM_call hn zm_X8_130 zkyX8_readFault rfl (cM_readFault hn (fun _ => hq)) rfl rfl (Nat.le_of_ble_eq_true rfl) (by decide) dX8_pass_81 ?_
      refine zv_istore dX8_pass_84 (by decide) ?_
      refine zv_iload dX8_pass_86 rfl ?_
      refine zv_if_le (tgt := 96) dX8_pass_88 (by decide) (fun c88 => ?_) (fun c88 => ?_)
      · skip
        refine zv_aload_n dX8_pass_96 rfl ?_
        refine zv_aload_n dX8_pass_97 rfl ?_
        refine zM_get hn zf_X8_7_6 rfl dX8_pass_98 ?_
        refine zv_iload_n dX8_pass_101 rfl ?_
        refine zM_ald0 hn (by first | with_reducible exact hto | with_reducible exact rk_i hq | with_reducible exact hin16) dX8_pass_102 ?_
        refine zv_aload_n dX8_pass_103 rfl ?_
        refine zM_get hn zf_X8_13_6 rfl dX8_pass_104 ?_
        refine zv_iload_n dX8_pass_107 rfl ?_
        refine zM_ald1 hn (by first | with_reducible exact hto | with_reducible exact rk_i hq | with_reducible exact hin16) dX8_pass_108 ?_
        refine zv_iload dX8_pass_109 rfl ?_
        refine zv_iload_n dX8_pass_111 rfl ?_
        refine zv_aload_n dX8_pass_112 rfl ?_
        refine zM_get hn zf_X8_27_6 rfl dX8_pass_113 ?_
        refine zv_bipushv (v := 16) dX8_pass_116 (by decide) ?_
        refine zv_iload dX8_pass_118 rfl ?_
        refine zv_imul dX8_pass_120 ?_
        refine zv_iload dX8_pass_121 rfl ?_
        refine zv_iadd dX8_pass_123 ?_
        refine zM_ald11 hn (by first | with_reducible exact hto | with_reducible exact rk_i hq | with_reducible exact hin16) dX8_pass_124 ?_
        refine zM_callg hn zm_X8_140 zkyX8_doWrite rfl (cM_doWrite hn hq2) rfl rfl (Nat.le_of_ble_eq_true rfl) (by decide) dX8_pass_125 (fun σ125 e125 => ?_)
        refine zv_istore dX8_pass_128 (by decide) ?_
        refine zv_iload dX8_pass_130 rfl ?_
        refine zv_if_le (tgt := 146) dX8_pass_132 (by decide) (fun c132 => ?_) (fun c132 => ?_)
        · skip
          refine zv_iinc dX8_pass_146 rfl (by decide) ?_
          refine zv_goto (tgt := 62) dX8_pass_149 (by decide) ?_
          first
          | exact absurd c132 c88
          | skip
            have hA : σ125.2.2.1 = σ.2.2.1 := by rw [e125]; exact writeS_a _ _ _ _ _ _
            have hp : s_paF σ q (xT σ to) (xW σ to) (nI k) as ≤ 0 := by unfold s_paF; rw [if_pos c88]; exact c132
            rw [show s_passL q (xT σ to) (xW σ to) as (m + 1) k σ = s_passL q (xT σ to) (xW σ to) as m (k + 1) σ125 from by rw [e125]; show (if _ then _ else _) = _; rw [if_pos hp]]
            refine zv_lv [(6, .int (nI (k + 1))), (5, .int q), (4, .int (s_wF σ (xT σ to) (xW σ to) (nI k) as)), (0, .ref (zg_B G + 18)), (1, .int r), (2, .int to), (3, .int as)] (by simp [zs1, Value.category, nI_succ]) ?_
            exact ih (k + 1) σ125 _ (rk_cg hA hq) (fun h => rk_cg hA (hq2 h)) (by show σ125.2.2.1 0 _ = _; rw [hA]) (by show σ125.2.2.1 1 _ = _; rw [hA]) (by show σ125.2.2.1 10 _ = _; rw [hA, show k + 1 + m = k + (m + 1) by omega]; exact hS) (by omega)
        · skip
          refine zv_aload_n dX8_pass_135 rfl ?_
          refine zv_iload dX8_pass_136 rfl ?_
          refine zM_call hn zm_X8_50 zkyX8_met1 rfl (cM_met1 hn (by first | with_reducible exact rF_in _ _ _ _ _ | with_reducible exact wF_in _ _ _ _ _)) rfl rfl (Nat.le_of_ble_eq_true rfl) (by decide) dX8_pass_138 ?_
          refine zv_istore dX8_pass_141 (by decide) ?_
          refine zv_iload dX8_pass_143 rfl ?_
          exact zv_ireturn dX8_pass_145 rfl (by first | (rw [passL_n (by rw [paF_n c88]; exact c88), paF_n c88]; exact ⟨rfl, rfl⟩) | (rw [passL_n (by rw [paF_y c88]; exact c132), paF_y c88]; exact ⟨rfl, by rw [e125, writeS_n c132]⟩))
      · skip
        refine zv_iload dX8_pass_91 rfl ?_
        refine zv_goto (tgt := 128) dX8_pass_93 (by decide) ?_
        refine zv_istore dX8_pass_128 (by decide) ?_
        refine zv_iload dX8_pass_130 rfl ?_
        refine zv_if_le (tgt := 146) dX8_pass_132 (by decide) (fun c132 => ?_) (fun c132 => ?_)
        · skip
          refine zv_iinc dX8_pass_146 rfl (by decide) ?_
          refine zv_goto (tgt := 62) dX8_pass_149 (by decide) ?_
          first
          | exact absurd c132 c88
          | skip
            have hA : σ125.2.2.1 = σ.2.2.1 := by rw [e125]; exact writeS_a _ _ _ _ _ _
            have hp : s_paF σ q (xT σ to) (xW σ to) (nI k) as ≤ 0 := by unfold s_paF; rw [if_pos c88]; exact c132
            rw [show s_passL q (xT σ to) (xW σ to) as (m + 1) k σ = s_passL q (xT σ to) (xW σ to) as m (k + 1) σ125 from by rw [e125]; show (if _ then _ else _) = _; rw [if_pos hp]]
            refine zv_lv [(6, .int (nI (k + 1))), (5, .int q), (4, .int (s_wF σ (xT σ to) (xW σ to) (nI k) as)), (0, .ref (zg_B G + 18)), (1, .int r), (2, .int to), (3, .int as)] (by simp [zs1, Value.category, nI_succ]) ?_
            exact ih (k + 1) σ125 _ (rk_cg hA hq) (fun h => rk_cg hA (hq2 h)) (by show σ125.2.2.1 0 _ = _; rw [hA]) (by show σ125.2.2.1 1 _ = _; rw [hA]) (by show σ125.2.2.1 10 _ = _; rw [hA, show k + 1 + m = k + (m + 1) by omega]; exact hS) (by omega)
        · skip
          refine zv_aload_n dX8_pass_135 rfl ?_
          refine zv_iload dX8_pass_136 rfl ?_
          refine zM_call hn zm_X8_50 zkyX8_met1 rfl (cM_met1 hn (by first | with_reducible exact rF_in _ _ _ _ _ | with_reducible exact wF_in _ _ _ _ _)) rfl rfl (Nat.le_of_ble_eq_true rfl) (by decide) dX8_pass_138 ?_
          refine zv_istore dX8_pass_141 (by decide) ?_
          refine zv_iload dX8_pass_143 rfl ?_
          exact zv_ireturn dX8_pass_145 rfl (by first | (rw [passL_n (by rw [paF_n c88]; exact c88), paF_n c88]; exact ⟨rfl, rfl⟩) | (rw [passL_n (by rw [paF_y c88]; exact c132), paF_y c88]; exact ⟨rfl, by rw [e125, writeS_n c132]⟩))
set_option maxRecDepth 20000 in
set_option maxHeartbeats 1000000 in
theorem cM_pass {G : zh_G} {l : Launch} {g : Nat → va_E} {nn : Nat} {σ : sg} (hn : zg_B G + 28 ≤ nn) {r to as : Int32} (ho : okG σ) (hsz : ∀ r, vp_in r 10 → xT σ r = 3 → ∃ S : Nat, S ≤ 16 ∧ xS σ (xW σ r) = nI S) : zc G l yX8_pass cX8_pass 7 (some .int) 3 [.ref (zg_B G + 18), .int r, .int to, .int as] (ms G g σ, nn) 0 0 (fun o h' => o = some (.int (s_pass σ r to as).1) ∧ h' = (ms G g (s_pass σ r to as).2, nn)) := by
  refine zc.of (by decide) (Nat.le_of_ble_eq_true rfl) ?_
  refine zv_iload_n dX8_pass_0 rfl ?_
  refine zv_callSq (mc := 0) (ms := 0) zm_X8_57 zkyX8_no cM_no rfl rfl (Nat.le_of_ble_eq_true rfl) (by decide) dX8_pass_1 ?_
  refine zv_if_ne (tgt := 14) dX8_pass_4 (by decide) (fun c4 => ?_) (fun c4 => ?_)
  · skip
    refine zv_iconstv (v := (-1)) dX8_pass_14 (by decide) ?_
    exact zv_ireturn dX8_pass_15 rfl (by refine ⟨?_, ?_⟩ <;> simp_all [-Int32.not_lt, -Int32.not_le, ← Int32.not_lt, xT, xW, xK, xS, xF, xP, zb_0, zb_n, out_bey, bey_9, bey_10, bey_16, bey_7, bey_4, bey_5, bey_3, bey_m, bey_e, s_pass])
  · skip
    refine zv_iload_n dX8_pass_7 rfl ?_
    refine zv_callSq (mc := 0) (ms := 0) zm_X8_57 zkyX8_no cM_no rfl rfl (Nat.le_of_ble_eq_true rfl) (by decide) dX8_pass_8 ?_
    refine zv_if_eq (tgt := 16) dX8_pass_11 (by decide) (fun c11 => ?_) (fun c11 => ?_)
    · skip
      refine zv_iload_n dX8_pass_16 rfl ?_
      refine zv_i2l dX8_pass_17 ?_
      refine zv_lconstv (v := 0) dX8_pass_18 (by decide) ?_
      refine zv_ldc2 dX8_pass_19 zq_X8_82 ?_
      refine zv_callSq (mc := 0) (ms := 0) zm_X8_42 zkyX8_beyond cM_beyond rfl rfl (Nat.le_of_ble_eq_true rfl) (by decide) dX8_pass_22 ?_
      refine zv_if_eq (tgt := 31) dX8_pass_25 (by decide) (fun c25 => ?_) (fun c25 => ?_)
      · skip
        refine zv_aload_n dX8_pass_31 rfl ?_
        refine zv_iload_n dX8_pass_32 rfl ?_
        refine zM_call hn zm_X8_144 zkyX8_sizeFault rfl (cM_sizeFault hn (no_in (zb_0.mp (by assumption)))) rfl rfl (Nat.le_of_ble_eq_true rfl) (by decide) dX8_pass_33 ?_
        refine zv_istore dX8_pass_36 (by decide) ?_
        refine zv_iload dX8_pass_38 rfl ?_
        refine zv_if_le (tgt := 51) dX8_pass_40 (by decide) (fun c40 => ?_) (fun c40 => ?_)
        · skip
          refine zv_aload_n dX8_pass_51 rfl ?_
          refine zM_get hn zf_X8_13_6 rfl dX8_pass_52 ?_
          refine zv_iload_n dX8_pass_55 rfl ?_
          refine zM_ald1 hn (no_in (zb_0.mp (by assumption))) dX8_pass_56 ?_
          refine zv_istore dX8_pass_57 (by decide) ?_
          refine zv_iconstv (v := 0) dX8_pass_59 (by decide) ?_
          refine zv_istore dX8_pass_60 (by decide) ?_
          have n1 : s_no r = false := zb_0.mp (by assumption)
          have n2 : s_no to = false := zb_0.mp (by assumption)
          have n3 : s_rng as 0 7 = false := by have := zb_0.mp c25; rwa [bey_7] at this
          have h3 : xT σ r = 3 := szF_3 (by assumption)
          obtain ⟨S, hS16, hS⟩ := hsz r (no_in n1) h3
          have e : s_pass σ r to as = s_passL (xW σ r) (xT σ to) (xW σ to) as S 0 σ := by
            unfold s_pass
            rw [if_neg (by rw [n1]; decide), if_neg (by rw [n2]; decide), if_neg (by rw [n3]; decide), if_pos (by assumption), hS, nI_clamp (by omega)]
          rw [e]
          refine zv_lv [(6, .int (nI 0)), (5, .int (xW σ r)), (4, .int (s_szF σ r)), (0, .ref (zg_B G + 18)), (1, .int r), (2, .int to), (3, .int as)] (by simp [zs1, lv_args, Value.category, nI_0]) ?_
          exact cM_pass_l hn (no_in n2) S 0 σ _ (ho.1.1 _ (no_in n1) h3) (ho.1.1 _ (no_in n2)) rfl rfl (by rw [hS, Nat.zero_add]) (by omega)
        · skip
          refine zv_aload_n dX8_pass_43 rfl ?_
          refine zv_iload dX8_pass_44 rfl ?_
          refine zv_iconstv (v := 0) dX8_pass_46 (by decide) ?_
          refine zM_call hn zm_X8_121 zkyX8_answer rfl (cM_answer hn (fun _ => szF_in _ _)) rfl rfl (Nat.le_of_ble_eq_true rfl) (by decide) dX8_pass_47 ?_
          exact zv_ireturn dX8_pass_50 rfl (by refine ⟨?_, ?_⟩ <;> simp_all [-Int32.not_lt, -Int32.not_le, ← Int32.not_lt, xT, xW, xK, xS, xF, xP, zb_0, zb_n, out_bey, bey_9, bey_10, bey_16, bey_7, bey_4, bey_5, bey_3, bey_m, bey_e, s_pass])
      · skip
        refine zv_bipushv (v := (-2)) dX8_pass_28 (by decide) ?_
        exact zv_ireturn dX8_pass_30 rfl (by refine ⟨?_, ?_⟩ <;> simp_all [-Int32.not_lt, -Int32.not_le, ← Int32.not_lt, xT, xW, xK, xS, xF, xP, zb_0, zb_n, out_bey, bey_9, bey_10, bey_16, bey_7, bey_4, bey_5, bey_3, bey_m, bey_e, s_pass])
    · skip
      refine zv_iconstv (v := (-1)) dX8_pass_14 (by decide) ?_
      exact zv_ireturn dX8_pass_15 rfl (by refine ⟨?_, ?_⟩ <;> simp_all [-Int32.not_lt, -Int32.not_le, ← Int32.not_lt, xT, xW, xK, xS, xF, xP, zb_0, zb_n, out_bey, bey_9, bey_10, bey_16, bey_7, bey_4, bey_5, bey_3, bey_m, bey_e, s_pass])
set_option maxRecDepth 20000 in
set_option maxHeartbeats 1000000 in
theorem cM_moves {G : zh_G} {l : Launch} {g : Nat → va_E} {nn : Nat} {σ : sg} (hn : zg_B G + 28 ≤ nn) {a i b k : Int32} (hr : vp_in a 10) (hb : vp_in b 10) (ho : okG σ) : zc G l yX8_moves cX8_moves 11 (some .int) 4 [.ref (zg_B G + 18), .int a, .int i, .int b, .int k] (ms G g σ, nn) 0 0 (fun o h' => o = some (.int (s_moF σ a i b k)) ∧ h' = (ms G g (s_moS σ a i b k), nn)) := by
  refine zc.of (by decide) (Nat.le_of_ble_eq_true rfl) ?_
  refine zv_aload_n dX8_moves_0 rfl ?_
  refine zM_get hn zf_X8_69_6 rfl dX8_moves_1 ?_
  refine zv_istore dX8_moves_4 (by decide) ?_
  refine zv_aload_n dX8_moves_6 rfl ?_
  refine zM_get hn zf_X8_75_6 rfl dX8_moves_7 ?_
  refine zv_istore dX8_moves_10 (by decide) ?_
  refine zv_aload_n dX8_moves_12 rfl ?_
  refine zM_get hn zf_X8_78_6 rfl dX8_moves_13 ?_
  refine zv_lstore dX8_moves_16 (by decide) ?_
  refine zv_aload_n dX8_moves_18 rfl ?_
  refine zM_get hn zf_X8_72_6 rfl dX8_moves_19 ?_
  refine zv_istore dX8_moves_22 (by decide) ?_
  refine zv_aload_n dX8_moves_24 rfl ?_
  refine zv_iload_n dX8_moves_25 rfl ?_
  refine zv_iload_n dX8_moves_26 rfl ?_
  refine zM_callg hn zm_X8_115 zkyX8_doGet rfl (cM_doGet hn hr (ho.1.1 _ hr)) rfl rfl (Nat.le_of_ble_eq_true rfl) (by decide) dX8_moves_27 (fun σ27 e27 => ?_)
  refine zv_istore dX8_moves_30 (by decide) ?_
  refine zv_iload dX8_moves_32 rfl ?_
  refine zv_if_le (tgt := 42) dX8_moves_34 (by decide) (fun c34 => ?_) (fun c34 => ?_)
  · skip
    refine zv_aload_n dX8_moves_42 rfl ?_
    refine zv_iload_n dX8_moves_43 rfl ?_
    refine zv_iload dX8_moves_44 rfl ?_
    refine zM_callg hn zm_X8_127 zkyX8_doSet rfl (cM_doSet hn hb (by subst e27; exact (ho.2.1 _ _ hr).1 _ hb) (by subst e27; exact (ho.2.1 _ _ hr).2.1)) rfl rfl (Nat.le_of_ble_eq_true rfl) (by decide) dX8_moves_46 (fun σ46 e46 => ?_)
    refine zv_istore dX8_moves_49 (by decide) ?_
    refine zv_aload_n dX8_moves_51 rfl ?_
    refine zv_iload dX8_moves_52 rfl ?_
    refine zM_put2 hn zfw_X8_69_6 dX8_moves_54 ?_
    refine zv_aload_n dX8_moves_57 rfl ?_
    refine zv_iload dX8_moves_58 rfl ?_
    refine zM_put3 hn zfw_X8_75_6 dX8_moves_60 ?_
    refine zv_aload_n dX8_moves_63 rfl ?_
    refine zv_lload dX8_moves_64 rfl ?_
    refine zM_put4 hn zfw_X8_78_6 dX8_moves_66 ?_
    refine zv_aload_n dX8_moves_69 rfl ?_
    refine zv_iload dX8_moves_70 rfl ?_
    refine zM_put5 hn zfw_X8_72_6 dX8_moves_72 ?_
    refine zv_iload dX8_moves_75 rfl ?_
    exact zv_ireturn dX8_moves_77 rfl (by first | (unfold s_moF s_moS; rw [if_pos c34, if_pos c34]; subst e27; subst e46; exact ⟨rfl, rfl⟩) | (unfold s_moF s_moS; rw [if_neg c34, if_neg c34]; subst e27; exact ⟨rfl, rfl⟩))
  · skip
    refine zv_iload dX8_moves_37 rfl ?_
    refine zv_goto (tgt := 49) dX8_moves_39 (by decide) ?_
    refine zv_istore dX8_moves_49 (by decide) ?_
    refine zv_aload_n dX8_moves_51 rfl ?_
    refine zv_iload dX8_moves_52 rfl ?_
    refine zM_put2 hn zfw_X8_69_6 dX8_moves_54 ?_
    refine zv_aload_n dX8_moves_57 rfl ?_
    refine zv_iload dX8_moves_58 rfl ?_
    refine zM_put3 hn zfw_X8_75_6 dX8_moves_60 ?_
    refine zv_aload_n dX8_moves_63 rfl ?_
    refine zv_lload dX8_moves_64 rfl ?_
    refine zM_put4 hn zfw_X8_78_6 dX8_moves_66 ?_
    refine zv_aload_n dX8_moves_69 rfl ?_
    refine zv_iload dX8_moves_70 rfl ?_
    refine zM_put5 hn zfw_X8_72_6 dX8_moves_72 ?_
    refine zv_iload dX8_moves_75 rfl ?_
    exact zv_ireturn dX8_moves_77 rfl (by first | (unfold s_moF s_moS; rw [if_pos c34, if_pos c34]; subst e27; subst e46; exact ⟨rfl, rfl⟩) | (unfold s_moF s_moS; rw [if_neg c34, if_neg c34]; subst e27; exact ⟨rfl, rfl⟩))
set_option maxRecDepth 20000 in
set_option maxHeartbeats 1000000 in
theorem cM_does {G : zh_G} {l : Launch} {g : Nat → va_E} {nn : Nat} {σ : sg} (hn : zg_B G + 28 ≤ nn) {p : Int32} (hP : vp_in p 60 ∧ vp_in (p + 1) 60 ∧ vp_in (p + 2) 60 ∧ vp_in (p + 3) 60 ∧ vp_in (p + 4) 60) (ha : vp_in (xO σ (p + 1)) 10) (hb : vp_in (xO σ (p + 3)) 10) (ho : okG σ) : zc G l yX8_does cX8_does 5 (some .int) 5 [.ref (zg_B G + 18), .int p] (ms G g σ, nn) 0 0 (fun o h' => o = some (.int (s_stF σ p)) ∧ h' = (ms G g (s_stS σ p), nn)) := by
  refine zc.of (by decide) (Nat.le_of_ble_eq_true rfl) ?_
  refine zv_aload_n dX8_does_0 rfl ?_
  refine zM_get hn zf_X8_31_6 rfl dX8_does_1 ?_
  refine zv_iload_n dX8_does_4 rfl ?_
  refine zv_iconstv (v := 1) dX8_does_5 (by decide) ?_
  refine zv_iadd dX8_does_6 ?_
  refine zM_ald13 hn (by first | with_reducible exact hP.1 | with_reducible exact hP.2.1 | with_reducible exact hP.2.2.1 | with_reducible exact hP.2.2.2.1 | with_reducible exact hP.2.2.2.2 | exact ha) dX8_does_7 ?_
  refine zv_istore_n dX8_does_8 (by decide) ?_
  refine zv_aload_n dX8_does_9 rfl ?_
  refine zM_get hn zf_X8_31_6 rfl dX8_does_10 ?_
  refine zv_iload_n dX8_does_13 rfl ?_
  refine zv_iconstv (v := 2) dX8_does_14 (by decide) ?_
  refine zv_iadd dX8_does_15 ?_
  refine zM_ald13 hn (by first | with_reducible exact hP.1 | with_reducible exact hP.2.1 | with_reducible exact hP.2.2.1 | with_reducible exact hP.2.2.2.1 | with_reducible exact hP.2.2.2.2 | exact ha) dX8_does_16 ?_
  refine zv_istore_n dX8_does_17 (by decide) ?_
  refine zv_aload_n dX8_does_18 rfl ?_
  refine zM_get hn zf_X8_31_6 rfl dX8_does_19 ?_
  refine zv_iload_n dX8_does_22 rfl ?_
  refine zv_iconstv (v := 4) dX8_does_23 (by decide) ?_
  refine zv_iadd dX8_does_24 ?_
  refine zM_ald13 hn (by first | with_reducible exact hP.1 | with_reducible exact hP.2.1 | with_reducible exact hP.2.2.1 | with_reducible exact hP.2.2.2.1 | with_reducible exact hP.2.2.2.2 | exact ha) dX8_does_25 ?_
  refine zv_istore dX8_does_26 (by decide) ?_
  refine zv_aload_n dX8_does_28 rfl ?_
  refine zM_get hn zf_X8_31_6 rfl dX8_does_29 ?_
  refine zv_iload_n dX8_does_32 rfl ?_
  refine zM_ald13 hn (by first | with_reducible exact hP.1 | with_reducible exact hP.2.1 | with_reducible exact hP.2.2.1 | with_reducible exact hP.2.2.2.1 | with_reducible exact hP.2.2.2.2 | exact ha) dX8_does_33 ?_
  generalize hop : σ.2.2.1 13 p.toNatClampNeg = op
  have hop : xO σ p = op := hop
  by_cases e0 : op = 0
  · subst e0
    refine zv_tableIn (tgt := 68) dX8_does_34 (by decide) (by decide) rfl (by decide) ?_
    refine zv_aload_n dX8_does_68 rfl ?_
    refine zv_iload_n dX8_does_69 rfl ?_
    refine zv_iload_n dX8_does_70 rfl ?_
    refine zM_call hn zm_X8_115 zkyX8_doGet rfl (cM_doGet hn (r := (xO σ (p + 1))) ha (ho.1.1 _ ha)) rfl rfl (Nat.le_of_ble_eq_true rfl) (by decide) dX8_does_71 ?_
    exact zv_ireturn dX8_does_74 rfl (by unfold s_stF s_stS s_doF s_doS; rw [hop]; simp_all [xO])
  by_cases e1 : op = 1
  · subst e1
    refine zv_tableIn (tgt := 75) dX8_does_34 (by decide) (by decide) rfl (by decide) ?_
    refine zv_aload_n dX8_does_75 rfl ?_
    refine zv_iload_n dX8_does_76 rfl ?_
    refine zv_iload_n dX8_does_77 rfl ?_
    refine zM_call hn zm_X8_127 zkyX8_doSet rfl (cM_doSet hn (r := (xO σ (p + 1))) ha (ho.1.1 _ ha) ho.1.2.1) rfl rfl (Nat.le_of_ble_eq_true rfl) (by decide) dX8_does_78 ?_
    exact zv_ireturn dX8_does_81 rfl (by unfold s_stF s_stS s_doF s_doS; rw [hop]; simp_all [xO])
  by_cases e2 : op = 2
  · subst e2
    refine zv_tableIn (tgt := 82) dX8_does_34 (by decide) (by decide) rfl (by decide) ?_
    refine zv_aload_n dX8_does_82 rfl ?_
    refine zv_aload_n dX8_does_83 rfl ?_
    refine zM_get hn zf_X8_7_6 rfl dX8_does_84 ?_
    refine zv_iload_n dX8_does_87 rfl ?_
    refine zM_ald0 hn (by first | with_reducible exact hP.1 | with_reducible exact hP.2.1 | with_reducible exact hP.2.2.1 | with_reducible exact hP.2.2.2.1 | with_reducible exact hP.2.2.2.2 | exact ha) dX8_does_88 ?_
    refine zv_aload_n dX8_does_89 rfl ?_
    refine zM_get hn zf_X8_13_6 rfl dX8_does_90 ?_
    refine zv_iload_n dX8_does_93 rfl ?_
    refine zM_ald1 hn (by first | with_reducible exact hP.1 | with_reducible exact hP.2.1 | with_reducible exact hP.2.2.1 | with_reducible exact hP.2.2.2.1 | with_reducible exact hP.2.2.2.2 | exact ha) dX8_does_94 ?_
    refine zv_iload_n dX8_does_95 rfl ?_
    refine zv_iload dX8_does_96 rfl ?_
    refine zM_call hn zm_X8_134 zkyX8_doRead rfl (cM_doRead hn (ho.1.1 _ ha)) rfl rfl (Nat.le_of_ble_eq_true rfl) (by decide) dX8_does_98 ?_
    exact zv_ireturn dX8_does_101 rfl (by unfold s_stF s_stS s_doF s_doS; rw [hop]; simp_all [xO])
  by_cases e3 : op = 3
  · subst e3
    refine zv_tableIn (tgt := 102) dX8_does_34 (by decide) (by decide) rfl (by decide) ?_
    refine zv_aload_n dX8_does_102 rfl ?_
    refine zM_get hn zf_X8_69_6 rfl dX8_does_103 ?_
    refine zv_iconstv (v := 1) dX8_does_106 (by decide) ?_
    refine zv_icmp_eq (tgt := 114) dX8_does_107 (by decide) (fun c107 => ?_) (fun c107 => ?_)
    · skip
      refine zv_aload_n dX8_does_114 rfl ?_
      refine zv_aload_n dX8_does_115 rfl ?_
      refine zM_get hn zf_X8_7_6 rfl dX8_does_116 ?_
      refine zv_iload_n dX8_does_119 rfl ?_
      refine zM_ald0 hn (by first | with_reducible exact hP.1 | with_reducible exact hP.2.1 | with_reducible exact hP.2.2.1 | with_reducible exact hP.2.2.2.1 | with_reducible exact hP.2.2.2.2 | exact ha) dX8_does_120 ?_
      refine zv_aload_n dX8_does_121 rfl ?_
      refine zM_get hn zf_X8_13_6 rfl dX8_does_122 ?_
      refine zv_iload_n dX8_does_125 rfl ?_
      refine zM_ald1 hn (by first | with_reducible exact hP.1 | with_reducible exact hP.2.1 | with_reducible exact hP.2.2.1 | with_reducible exact hP.2.2.2.1 | with_reducible exact hP.2.2.2.2 | exact ha) dX8_does_126 ?_
      refine zv_iload_n dX8_does_127 rfl ?_
      refine zv_iload dX8_does_128 rfl ?_
      refine zv_aload_n dX8_does_130 rfl ?_
      refine zM_get hn zf_X8_78_6 rfl dX8_does_131 ?_
      refine zM_call hn zm_X8_140 zkyX8_doWrite rfl (cM_doWrite hn (ho.1.1 _ ha)) rfl rfl (Nat.le_of_ble_eq_true rfl) (by decide) dX8_does_134 ?_
      exact zv_ireturn dX8_does_137 rfl (by unfold s_stF s_stS s_doF s_doS; rw [hop]; simp_all [xO])
    · skip
      refine zv_iconstv (v := 0) dX8_does_110 (by decide) ?_
      refine zv_goto (tgt := 137) dX8_does_111 (by decide) ?_
      exact zv_ireturn dX8_does_137 rfl (by unfold s_stF s_stS s_doF s_doS; rw [hop]; simp_all [xO])
  by_cases e4 : op = 4
  · subst e4
    refine zv_tableIn (tgt := 138) dX8_does_34 (by decide) (by decide) rfl (by decide) ?_
    refine zv_aload_n dX8_does_138 rfl ?_
    refine zv_iload_n dX8_does_139 rfl ?_
    refine zv_iload_n dX8_does_140 rfl ?_
    refine zv_iload dX8_does_141 rfl ?_
    refine zM_call hn zm_X8_156 zkyX8_doWithin rfl (cM_doWithin hn (r := (xO σ (p + 1))) ha (ho.1.1 _ ha) (ho.2.2 _ _ ha)) rfl rfl (Nat.le_of_ble_eq_true rfl) (by decide) dX8_does_143 ?_
    exact zv_ireturn dX8_does_146 rfl (by unfold s_stF s_stS s_doF s_doS; rw [hop]; simp_all [xO])
  have hout : op.toInt < 0 ∨ 4 < op.toInt := by
    have := lv_neT (a := 0) e0 (by decide); have := lv_neT (a := 1) e1 (by decide); have := lv_neT (a := 2) e2 (by decide); have := lv_neT (a := 3) e3 (by decide); have := lv_neT (a := 4) e4 (by decide)
    omega
  refine zv_tableOut (tgt := 147) dX8_does_34 hout (by decide) ?_
  refine zv_aload_n dX8_does_147 rfl ?_
  refine zv_iload_n dX8_does_148 rfl ?_
  refine zv_iload_n dX8_does_149 rfl ?_
  refine zv_aload_n dX8_does_150 rfl ?_
  refine zM_get hn zf_X8_31_6 rfl dX8_does_151 ?_
  refine zv_iload_n dX8_does_154 rfl ?_
  refine zv_iconstv (v := 3) dX8_does_155 (by decide) ?_
  refine zv_iadd dX8_does_156 ?_
  refine zM_ald13 hn (by first | with_reducible exact hP.1 | with_reducible exact hP.2.1 | with_reducible exact hP.2.2.1 | with_reducible exact hP.2.2.2.1 | with_reducible exact hP.2.2.2.2 | exact ha) dX8_does_157 ?_
  refine zv_iload dX8_does_158 rfl ?_
  refine zM_call hn zm_X8_173 zkyX8_moves rfl (cM_moves hn (a := (xO σ (p + 1))) (b := xO σ (p + 3)) ha hb ho) rfl rfl (Nat.le_of_ble_eq_true rfl) (by decide) dX8_does_160 ?_
  exact zv_ireturn dX8_does_163 rfl (by unfold s_stF s_stS s_doF s_doS; rw [hop]; simp_all [xO])
end
section
def stf (σ : sg) (p : Int32) : Prop := (vp_in p 60 ∧ vp_in (p + 1) 60 ∧ vp_in (p + 2) 60 ∧ vp_in (p + 3) 60 ∧ vp_in (p + 4) 60) ∧ vp_in (xO σ (p + 1)) 10 ∧ vp_in (xO σ (p + 3)) 10
theorem runL_y {stops : Bool} {m : Nat} {good : Int32} {σ : sg} (h : s_stF σ (5 * σ.1 14) ≤ 0) : s_runL stops (m + 1) good σ = s_runL stops m (good + (if s_stF σ (5 * σ.1 14) = 0 then 1 else 0)) (s_r1 σ) := if_pos h
theorem runL_s {m : Nat} {good : Int32} {σ : sg} (h : ¬ s_stF σ (5 * σ.1 14) ≤ 0) : s_runL true (m + 1) good σ = (good + 0, s_met1 (s_r1 σ) (s_stF σ (5 * σ.1 14))) := by
  unfold s_runL; rw [if_neg h]; rfl
theorem runL_g {m : Nat} {good : Int32} {σ : sg} (h : ¬ s_stF σ (5 * σ.1 14) ≤ 0) : s_runL false (m + 1) good σ = s_runL false m (good + 0) (s_met1 (s_r1 σ) (s_stF σ (5 * σ.1 14))) := by
  show (if _ then _ else if false = true then _ else _) = _
  rw [if_neg h]; rfl
set_option maxRecDepth 20000 in
set_option maxHeartbeats 1000000 in
theorem cM_run_l {G : zh_G} {l : Launch} {g : Nat → va_E} {nn : Nat} (hn : zg_B G + 28 ≤ nn) {b : Int32} (I : sg → Prop) (hI : ∀ σ, I σ → okG σ) (hS : ∀ (σ : sg) (D N : Nat), I σ → σ.1 14 = nI D → σ.1 12 = nI N → D < N → N ≤ 12 → stf σ (5 * σ.1 14) ∧ (s_stS σ (5 * σ.1 14)).1 14 = nI D ∧ (s_r1 σ).1 12 = nI N ∧ I (s_r1 σ) ∧ I (s_met1 (s_r1 σ) (s_stF σ (5 * σ.1 14)))) : ∀ (m D : Nat) (good : Int32) (σ : sg), I σ → σ.1 14 = nI D → σ.1 12 = nI (D + m) → D + m ≤ 12 → zv G l yX8_run cX8_run 5 (some .int) 6 0 0 9 [(3, .int 1), (2, .int good), (0, .ref (zg_B G + 18)), (1, .int b)] [] (ms G g σ, nn) (fun o h' => o = some (.int (s_runL (decide (¬ b = 0)) m good σ).1) ∧ h' = (ms G g (s_runL (decide (¬ b = 0)) m good σ).2, nn)) := by
  intro m
  induction m with
  | zero =>
    intro D good σ hi hd hs h12
    refine zv_iload_n dX8_run_9 rfl ?_
    refine zv_if_eq (tgt := 96) dX8_run_10 (by decide) (fun c => absurd c (by decide)) (fun _ => ?_)
    refine zv_aload_n dX8_run_13 rfl ?_
    refine zM_get hn zf_X8_176_6 rfl dX8_run_14 ?_
    refine zv_aload_n dX8_run_17 rfl ?_
    refine zM_get hn zf_X8_170_6 rfl dX8_run_18 ?_
    refine zv_icmp_ge (tgt := 96) dX8_run_21 (by decide) (fun _ => ?_) (fun c => absurd (by rw [hd, hs]; exact Int32.le_refl _) c)
    refine zv_iload_n dX8_run_96 rfl ?_
    exact zv_ireturn dX8_run_97 rfl ⟨rfl, rfl⟩
  | succ m ih =>
    intro D good σ hi hd hs h12
    obtain ⟨⟨f1, f1a, f1b⟩, f2, f3, f4, f5⟩ := hS σ D (D + (m + 1)) hi hd hs (by omega) h12
    have hD12 : vp_in (nI D) 12 := vp_in_nI (by omega) (by decide)
    refine zv_iload_n dX8_run_9 rfl ?_
    refine zv_if_eq (tgt := 96) dX8_run_10 (by decide) (fun c10 => ?_) (fun c10 => ?_)
    · exact absurd c10 (by decide)
    · skip
      refine zv_aload_n dX8_run_13 rfl ?_
      refine zM_get hn zf_X8_176_6 rfl dX8_run_14 ?_
      refine zv_aload_n dX8_run_17 rfl ?_
      refine zM_get hn zf_X8_170_6 rfl dX8_run_18 ?_
      refine zv_icmp_ge (tgt := 96) dX8_run_21 (by decide) (fun c21 => ?_) (fun c21 => ?_)
      · exact absurd c21 (by rw [hd, hs]; exact nI_ge (by omega) (by omega))
      · skip
        refine zv_aload_n dX8_run_24 rfl ?_
        refine zv_iconstv (v := 5) dX8_run_25 (by decide) ?_
        refine zv_aload_n dX8_run_26 rfl ?_
        refine zM_get hn zf_X8_176_6 rfl dX8_run_27 ?_
        refine zv_imul dX8_run_30 ?_
        refine zM_callg hn zm_X8_179 zkyX8_does rfl (cM_does hn f1 f1a f1b (hI σ hi)) rfl rfl (Nat.le_of_ble_eq_true rfl) (by decide) dX8_run_31 (fun σ31 e31 => ?_)
        refine zv_istore dX8_run_34 (by decide) ?_
        refine zv_aload_n dX8_run_36 rfl ?_
        refine zM_get hn zf_X8_34_6 rfl dX8_run_37 ?_
        refine zv_aload_n dX8_run_40 rfl ?_
        refine zM_get hn zf_X8_176_6 rfl dX8_run_41 ?_
        refine zv_iload dX8_run_44 rfl ?_
        refine zM_ast15 hn (by rw [e31, f2]; exact hD12) dX8_run_46 ?_
        refine zv_aload_n dX8_run_47 rfl ?_
        refine zv_dup dX8_run_48 rfl ?_
        refine zM_get hn zf_X8_176_6 rfl dX8_run_49 ?_
        refine zv_iconstv (v := 1) dX8_run_52 (by decide) ?_
        refine zv_iadd dX8_run_53 ?_
        refine zM_put14 hn zfw_X8_176_6 dX8_run_54 ?_
        have hr1 : si (sa σ31 15 (σ31.1 14).toNatClampNeg (s_stF σ (5 * σ.1 14))) 14 ((sa σ31 15 (σ31.1 14).toNatClampNeg (s_stF σ (5 * σ.1 14))).1 14 + 1) = s_r1 σ := by unfold s_r1; rw [e31]; rfl
        refine zM_st hr1 ?_
        have h14 : (s_r1 σ).1 14 = nI (D + 1) := by show (s_stS σ (5 * σ.1 14)).1 14 + 1 = _; rw [f2, nI_succ]
        have h12b : (s_r1 σ).1 12 = nI (D + 1 + m) := by rw [f3, show D + 1 + m = D + (m + 1) by omega]
        refine zv_iload_n dX8_run_57 rfl ?_
        refine zv_iload dX8_run_58 rfl ?_
        refine zv_if_ne (tgt := 67) dX8_run_60 (by decide) (fun c60 => ?_) (fun c60 => ?_)
        · skip
          refine zv_iconstv (v := 0) dX8_run_67 (by decide) ?_
          refine zv_iadd dX8_run_68 ?_
          refine zv_istore_n dX8_run_69 (by decide) ?_
          refine zv_iload dX8_run_70 rfl ?_
          refine zv_if_le (tgt := 93) dX8_run_72 (by decide) (fun c72 => ?_) (fun c72 => ?_)
          · skip
            refine zv_goto (tgt := 9) dX8_run_93 (by decide) ?_
            rw [runL_y c72, if_neg c60]
            refine zv_lv [(3, .int 1), (2, .int (good + 0)), (0, .ref (zg_B G + 18)), (1, .int b)] (by simp [zs1, Value.category, show ((3 : Fin 4) : Nat) = 3 from rfl, show ((2 : Fin 4) : Nat) = 2 from rfl]) ?_
            exact ih (D + 1) _ _ f4 h14 h12b (by omega)
          · skip
            refine zv_aload_n dX8_run_75 rfl ?_
            refine zv_iload dX8_run_76 rfl ?_
            refine zM_call hn zm_X8_50 zkyX8_met1 rfl (cM_met1 hn (doF_in _ _ _ _ _ _)) rfl rfl (Nat.le_of_ble_eq_true rfl) (by decide) dX8_run_78 ?_
            refine zv_istore dX8_run_81 (by decide) ?_
            refine zv_iload_n dX8_run_83 rfl ?_
            refine zv_if_ne (tgt := 91) dX8_run_84 (by decide) (fun c84 => ?_) (fun c84 => ?_)
            · skip
              refine zv_iconstv (v := 0) dX8_run_91 (by decide) ?_
              refine zv_istore_n dX8_run_92 (by decide) ?_
              refine zv_goto (tgt := 9) dX8_run_93 (by decide) ?_
              first
              | exact absurd (by rw [c60]; decide) c72
              | skip
                rw [show (decide (¬ b = 0)) = true from by simp [c84], runL_s c72]
                refine zv_iload_n dX8_run_9 rfl ?_
                refine zv_if_eq (tgt := 96) dX8_run_10 (by decide) (fun _ => ?_) (fun c => absurd rfl c)
                refine zv_iload_n dX8_run_96 rfl ?_
                exact zv_ireturn dX8_run_97 rfl ⟨rfl, rfl⟩
            · skip
              refine zv_iconstv (v := 1) dX8_run_87 (by decide) ?_
              refine zv_goto (tgt := 92) dX8_run_88 (by decide) ?_
              refine zv_istore_n dX8_run_92 (by decide) ?_
              refine zv_goto (tgt := 9) dX8_run_93 (by decide) ?_
              first
              | exact absurd (by rw [c60]; decide) c72
              | skip
                rw [show (decide (¬ b = 0)) = false from by simp [c84]]
                rw [runL_g c72]
                refine zv_lv [(3, .int 1), (2, .int (good + 0)), (0, .ref (zg_B G + 18)), (1, .int b)] (by simp [zs1, Value.category, show ((3 : Fin 4) : Nat) = 3 from rfl, show ((2 : Fin 4) : Nat) = 2 from rfl]) ?_
                have z := ih (D + 1) (good + 0) (s_met1 (s_r1 σ) (s_stF σ (5 * σ.1 14))) f5 h14 h12b (by omega)
                rw [show (decide (¬ b = 0)) = false from by simp [c84]] at z
                exact z
        · skip
          refine zv_iconstv (v := 1) dX8_run_63 (by decide) ?_
          refine zv_goto (tgt := 68) dX8_run_64 (by decide) ?_
          refine zv_iadd dX8_run_68 ?_
          refine zv_istore_n dX8_run_69 (by decide) ?_
          refine zv_iload dX8_run_70 rfl ?_
          refine zv_if_le (tgt := 93) dX8_run_72 (by decide) (fun c72 => ?_) (fun c72 => ?_)
          · skip
            refine zv_goto (tgt := 9) dX8_run_93 (by decide) ?_
            rw [runL_y c72, if_pos c60]
            refine zv_lv [(3, .int 1), (2, .int (good + 1)), (0, .ref (zg_B G + 18)), (1, .int b)] (by simp [zs1, Value.category, show ((3 : Fin 4) : Nat) = 3 from rfl, show ((2 : Fin 4) : Nat) = 2 from rfl]) ?_
            exact ih (D + 1) _ _ f4 h14 h12b (by omega)
          · skip
            refine zv_aload_n dX8_run_75 rfl ?_
            refine zv_iload dX8_run_76 rfl ?_
            refine zM_call hn zm_X8_50 zkyX8_met1 rfl (cM_met1 hn (doF_in _ _ _ _ _ _)) rfl rfl (Nat.le_of_ble_eq_true rfl) (by decide) dX8_run_78 ?_
            refine zv_istore dX8_run_81 (by decide) ?_
            refine zv_iload_n dX8_run_83 rfl ?_
            refine zv_if_ne (tgt := 91) dX8_run_84 (by decide) (fun c84 => ?_) (fun c84 => ?_)
            · skip
              refine zv_iconstv (v := 0) dX8_run_91 (by decide) ?_
              refine zv_istore_n dX8_run_92 (by decide) ?_
              refine zv_goto (tgt := 9) dX8_run_93 (by decide) ?_
              first
              | exact absurd (by rw [c60]; decide) c72
              | skip
                rw [show (decide (¬ b = 0)) = true from by simp [c84], runL_s c72]
                refine zv_iload_n dX8_run_9 rfl ?_
                refine zv_if_eq (tgt := 96) dX8_run_10 (by decide) (fun _ => ?_) (fun c => absurd rfl c)
                refine zv_iload_n dX8_run_96 rfl ?_
                exact zv_ireturn dX8_run_97 rfl ⟨rfl, rfl⟩
            · skip
              refine zv_iconstv (v := 1) dX8_run_87 (by decide) ?_
              refine zv_goto (tgt := 92) dX8_run_88 (by decide) ?_
              refine zv_istore_n dX8_run_92 (by decide) ?_
              refine zv_goto (tgt := 9) dX8_run_93 (by decide) ?_
              first
              | exact absurd (by rw [c60]; decide) c72
              | skip
                rw [show (decide (¬ b = 0)) = false from by simp [c84]]
                rw [runL_g c72]
                refine zv_lv [(3, .int 1), (2, .int (good + 0)), (0, .ref (zg_B G + 18)), (1, .int b)] (by simp [zs1, Value.category, show ((3 : Fin 4) : Nat) = 3 from rfl, show ((2 : Fin 4) : Nat) = 2 from rfl]) ?_
                have z := ih (D + 1) (good + 0) (s_met1 (s_r1 σ) (s_stF σ (5 * σ.1 14))) f5 h14 h12b (by omega)
                rw [show (decide (¬ b = 0)) = false from by simp [c84]] at z
                exact z
set_option maxRecDepth 20000 in
set_option maxHeartbeats 1000000 in
theorem cM_run {G : zh_G} {l : Launch} {g : Nat → va_E} {nn : Nat} {σ : sg} (hn : zg_B G + 28 ≤ nn) {b : Int32} (I : sg → Prop) (hI : ∀ σ, I σ → okG σ) (hS : ∀ (σ : sg) (D N : Nat), I σ → σ.1 14 = nI D → σ.1 12 = nI N → D < N → N ≤ 12 → stf σ (5 * σ.1 14) ∧ (s_stS σ (5 * σ.1 14)).1 14 = nI D ∧ (s_r1 σ).1 12 = nI N ∧ I (s_r1 σ) ∧ I (s_met1 (s_r1 σ) (s_stF σ (5 * σ.1 14)))) {N : Nat} (hi : I (si σ 14 0)) (hs : σ.1 12 = nI N) (h12 : N ≤ 12) : zc G l yX8_run cX8_run 5 (some .int) 6 [.ref (zg_B G + 18), .int b] (ms G g σ, nn) 0 0 (fun o h' => o = some (.int (s_run σ (decide (¬ b = 0))).1) ∧ h' = (ms G g (s_run σ (decide (¬ b = 0))).2, nn)) := by
  refine zc.of (by decide) (Nat.le_of_ble_eq_true rfl) ?_
  refine zv_iconstv (v := 0) dX8_run_0 (by decide) ?_
  refine zv_istore_n dX8_run_1 (by decide) ?_
  refine zv_aload_n dX8_run_2 rfl ?_
  refine zv_iconstv (v := 0) dX8_run_3 (by decide) ?_
  refine zM_put14 hn zfw_X8_176_6 dX8_run_4 ?_
  refine zv_iconstv (v := 1) dX8_run_7 (by decide) ?_
  refine zv_istore_n dX8_run_8 (by decide) ?_
  have e : s_run σ (decide (¬ b = 0)) = s_runL (decide (¬ b = 0)) N 0 (si σ 14 0) := by unfold s_run; rw [hs, nI_clamp (by omega)]
  rw [e]
  refine zv_lv [(3, .int 1), (2, .int 0), (0, .ref (zg_B G + 18)), (1, .int b)] (by simp [zs1, lv_args, Value.category, show ((3 : Fin 4) : Nat) = 3 from rfl, show ((2 : Fin 4) : Nat) = 2 from rfl]) ?_
  exact cM_run_l hn I hI hS N 0 0 _ hi rfl (by rw [Nat.zero_add]; exact hs) (by omega)
def s0 : sg := (fun _ => 0, 0, fun _ _ => 0, fun _ => 0)
set_option maxRecDepth 20000 in
set_option maxHeartbeats 4000000 in
theorem cM_init {G : zh_G} {l : Launch} {f : Nat → va_E} (hf : f (zg_B G + 18) = .inr (6, [.null, .null, .int 0, .int 0, .long 0, .int 0, .int 0, .null, .int 0, .null, .null, .null, .int 0, .null, .int 0, .null, .int 0, .null, .int 0, .int 0])) : zc G l yX8_init cX8_init 1 none 1 [.ref (zg_B G + 18)] (f, zg_B G + 19) 9 90137 (fun o h' => o = none ∧ h' = (ms G f s0, zg_B G + 28)) := by
  refine zc.of (by decide) (Nat.le_of_ble_eq_true rfl) ?_
  refine zv_aload_n dX8_init_0 rfl ?_
  refine zv_objInit zo_X8_1 zo_i zo_c (Nat.le_of_ble_eq_true rfl) (by decide) dX8_init_1 ?_
  refine zv_aload_n dX8_init_4 rfl ?_
  refine zv_bipushv (v := 10) dX8_init_5 (by decide) ?_
  refine zv_newI (N := 10) (mc := 8) (ms := 90127) za_int (by decide) (by decide) (by decide) dX8_init_7 ?_
  refine zv_putF (fs := [.null, .null, .int 0, .int 0, .long 0, .int 0, .int 0, .null, .int 0, .null, .null, .null, .int 0, .null, .int 0, .null, .int 0, .null, .int 0, .int 0]) zfw_X8_7_6 rfl (by simp [va_up, hf]) (by omega) (show zg_B G + 18 < zg_B G + 20 by omega) rfl rfl (by simp) dX8_init_9 ?_
  refine zv_aload_n dX8_init_12 rfl ?_
  refine zv_bipushv (v := 10) dX8_init_13 (by decide) ?_
  refine zv_newI (N := 10) (mc := 7) (ms := 90117) za_int (by decide) (by decide) (by decide) dX8_init_15 ?_
  refine zv_putF (fs := [.ref (zg_B G + 19), .null, .int 0, .int 0, .long 0, .int 0, .int 0, .null, .int 0, .null, .null, .null, .int 0, .null, .int 0, .null, .int 0, .null, .int 0, .int 0]) zfw_X8_13_6 rfl (by simp [va_up, hf]) (by omega) (show zg_B G + 18 < zg_B G + 21 by omega) rfl rfl (by simp) dX8_init_17 ?_
  refine zv_aload_n dX8_init_20 rfl ?_
  refine zv_bipushv (v := 41) dX8_init_21 (by decide) ?_
  refine zv_newZ (N := 41) (mc := 6) (ms := 90076) za_boolean (by decide) (by decide) (by decide) dX8_init_23 ?_
  refine zv_putF (fs := [.ref (zg_B G + 19), .ref (zg_B G + 20), .int 0, .int 0, .long 0, .int 0, .int 0, .null, .int 0, .null, .null, .null, .int 0, .null, .int 0, .null, .int 0, .null, .int 0, .int 0]) zfw_X8_16_6 rfl (by simp [va_up, hf]) (by omega) (show zg_B G + 18 < zg_B G + 22 by omega) rfl rfl (by simp) dX8_init_25 ?_
  refine zv_aload_n dX8_init_28 rfl ?_
  refine zv_sipushv (v := 5000) dX8_init_29 (by decide) ?_
  refine zv_newI (N := 5000) (mc := 5) (ms := 85076) za_int (by decide) (by decide) (by decide) dX8_init_32 ?_
  refine zv_putF (fs := [.ref (zg_B G + 19), .ref (zg_B G + 20), .int 0, .int 0, .long 0, .int 0, .int 0, .ref (zg_B G + 21), .int 0, .null, .null, .null, .int 0, .null, .int 0, .null, .int 0, .null, .int 0, .int 0]) zfw_X8_20_6 rfl (by simp [va_up, hf]) (by omega) (show zg_B G + 18 < zg_B G + 23 by omega) rfl rfl (by simp) dX8_init_34 ?_
  refine zv_aload_n dX8_init_37 rfl ?_
  refine zv_sipushv (v := 5000) dX8_init_38 (by decide) ?_
  refine zv_newI (N := 5000) (mc := 4) (ms := 80076) za_int (by decide) (by decide) (by decide) dX8_init_41 ?_
  refine zv_putF (fs := [.ref (zg_B G + 19), .ref (zg_B G + 20), .int 0, .int 0, .long 0, .int 0, .int 0, .ref (zg_B G + 21), .int 0, .ref (zg_B G + 22), .null, .null, .int 0, .null, .int 0, .null, .int 0, .null, .int 0, .int 0]) zfw_X8_23_6 rfl (by simp [va_up, hf]) (by omega) (show zg_B G + 18 < zg_B G + 24 by omega) rfl rfl (by simp) dX8_init_43 ?_
  refine zv_aload_n dX8_init_46 rfl ?_
  refine zv_ldc dX8_init_47 zq_X8_26 ?_
  refine zv_newJ (N := 80000) (mc := 3) (ms := 76) za_long (by decide) (by decide) (by decide) dX8_init_49 ?_
  refine zv_putF (fs := [.ref (zg_B G + 19), .ref (zg_B G + 20), .int 0, .int 0, .long 0, .int 0, .int 0, .ref (zg_B G + 21), .int 0, .ref (zg_B G + 22), .ref (zg_B G + 23), .null, .int 0, .null, .int 0, .null, .int 0, .null, .int 0, .int 0]) zfw_X8_27_6 rfl (by simp [va_up, hf]) (by omega) (show zg_B G + 18 < zg_B G + 25 by omega) rfl rfl (by simp) dX8_init_51 ?_
  refine zv_aload_n dX8_init_54 rfl ?_
  refine zv_bipushv (v := 60) dX8_init_55 (by decide) ?_
  refine zv_newI (N := 60) (mc := 2) (ms := 16) za_int (by decide) (by decide) (by decide) dX8_init_57 ?_
  refine zv_putF (fs := [.ref (zg_B G + 19), .ref (zg_B G + 20), .int 0, .int 0, .long 0, .int 0, .int 0, .ref (zg_B G + 21), .int 0, .ref (zg_B G + 22), .ref (zg_B G + 23), .ref (zg_B G + 24), .int 0, .null, .int 0, .null, .int 0, .null, .int 0, .int 0]) zfw_X8_31_6 rfl (by simp [va_up, hf]) (by omega) (show zg_B G + 18 < zg_B G + 26 by omega) rfl rfl (by simp) dX8_init_59 ?_
  refine zv_aload_n dX8_init_62 rfl ?_
  refine zv_bipushv (v := 12) dX8_init_63 (by decide) ?_
  refine zv_newI (N := 12) (mc := 1) (ms := 4) za_int (by decide) (by decide) (by decide) dX8_init_65 ?_
  refine zv_putF (fs := [.ref (zg_B G + 19), .ref (zg_B G + 20), .int 0, .int 0, .long 0, .int 0, .int 0, .ref (zg_B G + 21), .int 0, .ref (zg_B G + 22), .ref (zg_B G + 23), .ref (zg_B G + 24), .int 0, .ref (zg_B G + 25), .int 0, .null, .int 0, .null, .int 0, .int 0]) zfw_X8_34_6 rfl (by simp [va_up, hf]) (by omega) (show zg_B G + 18 < zg_B G + 27 by omega) rfl rfl (by simp) dX8_init_67 ?_
  refine zv_aload_n dX8_init_70 rfl ?_
  refine zv_iconstv (v := 4) dX8_init_71 (by decide) ?_
  refine zv_newI (N := 4) (mc := 0) (ms := 0) za_int (by decide) (by decide) (by decide) dX8_init_72 ?_
  refine zv_putF (fs := [.ref (zg_B G + 19), .ref (zg_B G + 20), .int 0, .int 0, .long 0, .int 0, .int 0, .ref (zg_B G + 21), .int 0, .ref (zg_B G + 22), .ref (zg_B G + 23), .ref (zg_B G + 24), .int 0, .ref (zg_B G + 25), .int 0, .ref (zg_B G + 26), .int 0, .null, .int 0, .int 0]) zfw_X8_37_6 rfl (by simp [va_up, hf]) (by omega) (show zg_B G + 18 < zg_B G + 28 by omega) rfl rfl (by simp) dX8_init_74 ?_
  refine zv_return dX8_init_77 rfl ⟨rfl, ?_⟩
  congr 1
  funext a
  unfold ms
  by_cases h18 : a = zg_B G + 18
  · subst h18; simp [va_up, mo, s0]
  by_cases h19 : a = zg_B G + 19
  · subst h19; simp [va_up, mo, s0]
  by_cases h20 : a = zg_B G + 20
  · subst h20; simp [va_up, mo, s0]
  by_cases h21 : a = zg_B G + 21
  · subst h21; simp [va_up, mo, s0]
  by_cases h22 : a = zg_B G + 22
  · subst h22; simp [va_up, mo, s0]
  by_cases h23 : a = zg_B G + 23
  · subst h23; simp [va_up, mo, s0]
  by_cases h24 : a = zg_B G + 24
  · subst h24; simp [va_up, mo, s0]
  by_cases h25 : a = zg_B G + 25
  · subst h25; simp [va_up, mo, s0]
  by_cases h26 : a = zg_B G + 26
  · subst h26; simp [va_up, mo, s0]
  by_cases h27 : a = zg_B G + 27
  · subst h27; simp [va_up, mo, s0]
  simp [va_up, h18, h19, h20, h21, h22, h23, h24, h25, h26, h27]
end
section
section ZR
variable {G : zh_G} {l : Launch} {y : MethodName} {cc : ByteArray} {n : Nat} {r : Option FieldType} {d mc ms0 pc : Nat} {lv : List (Nat × Value)} {st : List Value} {h : zh_H} {Q : Option Value → zh_H → Prop}
theorem zv_aloadr_n {k : Fin 4} {x : Option Nat} (hd : decode cc pc = .ok (.aload_n k, 1)) (hk : zl lv k = some (va_rf x)) (kk : zv G l y cc n r d mc ms0 (pc + 1) lv (va_rf x :: st) h Q) : zv G l y cc n r d mc ms0 pc lv st h Q := by
  cases x with
  | none => exact zv_aload_nN hd hk kk
  | some a => exact zv_aload_n hd hk kk
theorem zv_aloadr {k : Nat} {x : Option Nat} (hd : decode cc pc = .ok (.aload k, 2)) (hk : zl lv k = some (va_rf x)) (kk : zv G l y cc n r d mc ms0 (pc + 2) lv (va_rf x :: st) h Q) : zv G l y cc n r d mc ms0 pc lv st h Q := by
  cases x with
  | none => exact zv_aloadN hd hk kk
  | some a => exact zv_aload hd hk kk
theorem zv_astorer_n {k : Fin 4} {x : Option Nat} (hd : decode cc pc = .ok (.astore_n k, 1)) (hn : (k : Nat) < n) (kk : zv G l y cc n r d mc ms0 (pc + 1) (zs1 lv k (va_rf x)) st h Q) : zv G l y cc n r d mc ms0 pc lv (va_rf x :: st) h Q := by
  cases x with
  | none =>
    intro p e R s m args below meth c Qf C H locs cells slots ls hW hL h1 h2 hl
    exact lv_astore_nN C.1.1 C.1.2.1 hd rfl hl hn rfl (fun ls hl => kk p e R s m args below meth c Qf C H locs cells slots ls hW hL h1 h2 hl)
  | some a => exact zv_astore_n hd hn kk
end ZR
def gi (k o : Int32) : Bool := decide (¬ k < 0 ∧ k < 11 ∧ (zg_tab k.toNatClampNeg >>> (o &&& 31)) &&& 1 = 1)
theorem gi_in {k : Int32} (h1 : ¬ k < 0) (h2 : ¬ 11 ≤ k) : vp_in k 11 := by
  rw [vp_in_iff]
  simp only [Int32.not_lt, Int32.not_le, Int32.le_iff_toInt_le, Int32.lt_iff_toInt_lt] at h1 h2
  have e1 : (0 : Int32).toInt = 0 := by decide
  have e2 : (11 : Int32).toInt = 11 := by decide
  omega
def co (i S : Int32) : Bool := decide (i < 0 ∨ S ≤ i)
theorem co_in {i : Int32} {s : Nat} (hs : s ≤ 16) (h : co i (nI s) = false) : vp_in i s := by
  rw [vp_in_iff]
  unfold co at h
  simp only [decide_eq_false_iff_not, not_or, Int32.not_lt, Int32.not_le, Int32.le_iff_toInt_le, Int32.lt_iff_toInt_lt, nI_toInt (show s < 2 ^ 31 by omega)] at h
  have e1 : (0 : Int32).toInt = 0 := by decide
  omega
theorem co_out (i : Int32) {s : Nat} (hs : s ≤ 16) : s_out i (nI s) = co i (nI s) := by
  unfold s_out co
  congr 1
  apply propext
  simp only [Int32.lt_iff_toInt_lt, Int32.le_iff_toInt_le]
  have e1 : (nI s - 1).toInt = (s : Int) - 1 := by
    rw [show (1 : Int32) = nI 1 from rfl]; exact pk_sub_toInt (by omega) (by decide)
  rw [e1, nI_toInt (show s < 2 ^ 31 by omega)]
  have e0 : (0 : Int32).toInt = 0 := by decide
  omega
set_option maxRecDepth 20000 in
set_option maxHeartbeats 1000000 in
theorem cX_isRack {G : zh_G} {l : Launch} {h : zh_H} {r : Int32} : zc G l yX7_isRack cX7_isRack 1 (some .boolean) 0 [.int r] h 0 0 (fun o h' => o = some (.int (zb (!(s_no r)))) ∧ h' = h) := by
  refine zc.of (by decide) (Nat.le_of_ble_eq_true rfl) ?_
  refine zv_iload_n dX7_isRack_0 rfl ?_
  refine zv_if_lt (tgt := 14) dX7_isRack_1 (by decide) (fun c1 => ?_) (fun c1 => ?_)
  · skip
    refine zv_iconstv (v := 0) dX7_isRack_14 (by decide) ?_
    exact zv_zreturn dX7_isRack_15 rfl (by decide) (by refine ⟨?_, rfl⟩; simp only [zb, s_no, s_rng, Int32.lt_iff_toInt_lt, Int32.le_iff_toInt_le, Int32.not_lt, Int32.not_le, show (0 : Int32).toInt = 0 from rfl, show (7 : Int32).toInt = 7 from rfl, show (8 : Int32).toInt = 8 from rfl, show (9 : Int32).toInt = 9 from rfl, show (10 : Int32).toInt = 10 from rfl] at *; first | (rw [if_pos (by rw [Bool.not_eq_true', decide_eq_false_iff_not]; omega)]) | (rw [if_neg (by rw [Bool.not_eq_true', decide_eq_false_iff_not]; omega)]))
  · skip
    refine zv_iload_n dX7_isRack_4 rfl ?_
    refine zv_bipushv (v := 10) dX7_isRack_5 (by decide) ?_
    refine zv_icmp_ge (tgt := 14) dX7_isRack_7 (by decide) (fun c7 => ?_) (fun c7 => ?_)
    · skip
      refine zv_iconstv (v := 0) dX7_isRack_14 (by decide) ?_
      exact zv_zreturn dX7_isRack_15 rfl (by decide) (by refine ⟨?_, rfl⟩; simp only [zb, s_no, s_rng, Int32.lt_iff_toInt_lt, Int32.le_iff_toInt_le, Int32.not_lt, Int32.not_le, show (0 : Int32).toInt = 0 from rfl, show (7 : Int32).toInt = 7 from rfl, show (8 : Int32).toInt = 8 from rfl, show (9 : Int32).toInt = 9 from rfl, show (10 : Int32).toInt = 10 from rfl] at *; first | (rw [if_pos (by rw [Bool.not_eq_true', decide_eq_false_iff_not]; omega)]) | (rw [if_neg (by rw [Bool.not_eq_true', decide_eq_false_iff_not]; omega)]))
    · skip
      refine zv_iconstv (v := 1) dX7_isRack_10 (by decide) ?_
      refine zv_goto (tgt := 15) dX7_isRack_11 (by decide) ?_
      exact zv_zreturn dX7_isRack_15 rfl (by decide) (by refine ⟨?_, rfl⟩; simp only [zb, s_no, s_rng, Int32.lt_iff_toInt_lt, Int32.le_iff_toInt_le, Int32.not_lt, Int32.not_le, show (0 : Int32).toInt = 0 from rfl, show (7 : Int32).toInt = 7 from rfl, show (8 : Int32).toInt = 8 from rfl, show (9 : Int32).toInt = 9 from rfl, show (10 : Int32).toInt = 10 from rfl] at *; first | (rw [if_pos (by rw [Bool.not_eq_true', decide_eq_false_iff_not]; omega)]) | (rw [if_neg (by rw [Bool.not_eq_true', decide_eq_false_iff_not]; omega)]))
set_option maxRecDepth 20000 in
set_option maxHeartbeats 1000000 in
theorem cX_isNK {G : zh_G} {l : Launch} {h : zh_H} {k : Int32} : zc G l yX7_isNumberKind cX7_isNumberKind 1 (some .boolean) 0 [.int k] h 0 0 (fun o h' => o = some (.int (zb (!(s_rng k 0 7)))) ∧ h' = h) := by
  refine zc.of (by decide) (Nat.le_of_ble_eq_true rfl) ?_
  refine zv_iload_n dX7_isNumberKind_0 rfl ?_
  refine zv_if_lt (tgt := 14) dX7_isNumberKind_1 (by decide) (fun c1 => ?_) (fun c1 => ?_)
  · skip
    refine zv_iconstv (v := 0) dX7_isNumberKind_14 (by decide) ?_
    exact zv_zreturn dX7_isNumberKind_15 rfl (by decide) (by refine ⟨?_, rfl⟩; simp only [zb, s_no, s_rng, Int32.lt_iff_toInt_lt, Int32.le_iff_toInt_le, Int32.not_lt, Int32.not_le, show (0 : Int32).toInt = 0 from rfl, show (7 : Int32).toInt = 7 from rfl, show (8 : Int32).toInt = 8 from rfl, show (9 : Int32).toInt = 9 from rfl, show (10 : Int32).toInt = 10 from rfl] at *; first | (rw [if_pos (by rw [Bool.not_eq_true', decide_eq_false_iff_not]; omega)]) | (rw [if_neg (by rw [Bool.not_eq_true', decide_eq_false_iff_not]; omega)]))
  · skip
    refine zv_iload_n dX7_isNumberKind_4 rfl ?_
    refine zv_bipushv (v := 8) dX7_isNumberKind_5 (by decide) ?_
    refine zv_icmp_ge (tgt := 14) dX7_isNumberKind_7 (by decide) (fun c7 => ?_) (fun c7 => ?_)
    · skip
      refine zv_iconstv (v := 0) dX7_isNumberKind_14 (by decide) ?_
      exact zv_zreturn dX7_isNumberKind_15 rfl (by decide) (by refine ⟨?_, rfl⟩; simp only [zb, s_no, s_rng, Int32.lt_iff_toInt_lt, Int32.le_iff_toInt_le, Int32.not_lt, Int32.not_le, show (0 : Int32).toInt = 0 from rfl, show (7 : Int32).toInt = 7 from rfl, show (8 : Int32).toInt = 8 from rfl, show (9 : Int32).toInt = 9 from rfl, show (10 : Int32).toInt = 10 from rfl] at *; first | (rw [if_pos (by rw [Bool.not_eq_true', decide_eq_false_iff_not]; omega)]) | (rw [if_neg (by rw [Bool.not_eq_true', decide_eq_false_iff_not]; omega)]))
    · skip
      refine zv_iconstv (v := 1) dX7_isNumberKind_10 (by decide) ?_
      refine zv_goto (tgt := 15) dX7_isNumberKind_11 (by decide) ?_
      exact zv_zreturn dX7_isNumberKind_15 rfl (by decide) (by refine ⟨?_, rfl⟩; simp only [zb, s_no, s_rng, Int32.lt_iff_toInt_lt, Int32.le_iff_toInt_le, Int32.not_lt, Int32.not_le, show (0 : Int32).toInt = 0 from rfl, show (7 : Int32).toInt = 7 from rfl, show (8 : Int32).toInt = 8 from rfl, show (9 : Int32).toInt = 9 from rfl, show (10 : Int32).toInt = 10 from rfl] at *; first | (rw [if_pos (by rw [Bool.not_eq_true', decide_eq_false_iff_not]; omega)]) | (rw [if_neg (by rw [Bool.not_eq_true', decide_eq_false_iff_not]; omega)]))
set_option maxRecDepth 20000 in
set_option maxHeartbeats 1000000 in
theorem cX_goes {G : zh_G} {l : Launch} {h : zh_H} {k o1 : Int32} : zc G l yX7_goesInto cX7_goesInto 2 (some .boolean) 0 [.int k, .int o1] h 0 0 (fun o h' => o = some (.int (zb (gi k o1))) ∧ h' = h) := by
  refine zc.of (by decide) (Nat.le_of_ble_eq_true rfl) ?_
  refine zv_iload_n dX7_goesInto_0 rfl ?_
  refine zv_if_lt (tgt := 27) dX7_goesInto_1 (by decide) (fun c1 => ?_) (fun c1 => ?_)
  · skip
    refine zv_iconstv (v := 0) dX7_goesInto_27 (by decide) ?_
    exact zv_zreturn dX7_goesInto_28 rfl (by decide) (by refine ⟨?_, rfl⟩; simp_all [-Int32.not_lt, -Int32.not_le, ← Int32.not_lt, gi, zb])
  · skip
    refine zv_iload_n dX7_goesInto_4 rfl ?_
    refine zv_bipushv (v := 11) dX7_goesInto_5 (by decide) ?_
    refine zv_icmp_ge (tgt := 27) dX7_goesInto_7 (by decide) (fun c7 => ?_) (fun c7 => ?_)
    · skip
      refine zv_iconstv (v := 0) dX7_goesInto_27 (by decide) ?_
      exact zv_zreturn dX7_goesInto_28 rfl (by decide) (by refine ⟨?_, rfl⟩; simp_all [-Int32.not_lt, -Int32.not_le, ← Int32.not_lt, gi, zb])
    · skip
      refine zv_gets zg_goes dX7_goesInto_10 ?_
      refine zv_iload_n dX7_goesInto_13 rfl ?_
      refine zv_gald (gi_in (by assumption) (by assumption)) dX7_goesInto_14 ?_
      refine zv_iload_n dX7_goesInto_15 rfl ?_
      refine zv_ishr dX7_goesInto_16 ?_
      refine zv_iconstv (v := 1) dX7_goesInto_17 (by decide) ?_
      refine zv_iand dX7_goesInto_18 ?_
      refine zv_iconstv (v := 1) dX7_goesInto_19 (by decide) ?_
      refine zv_icmp_ne (tgt := 27) dX7_goesInto_20 (by decide) (fun c20 => ?_) (fun c20 => ?_)
      · skip
        refine zv_iconstv (v := 0) dX7_goesInto_27 (by decide) ?_
        exact zv_zreturn dX7_goesInto_28 rfl (by decide) (by refine ⟨?_, rfl⟩; simp_all [-Int32.not_lt, -Int32.not_le, ← Int32.not_lt, gi, zb])
      · skip
        refine zv_iconstv (v := 1) dX7_goesInto_23 (by decide) ?_
        refine zv_goto (tgt := 28) dX7_goesInto_24 (by decide) ?_
        exact zv_zreturn dX7_goesInto_28 rfl (by decide) (by refine ⟨?_, rfl⟩; simp_all [-Int32.not_lt, -Int32.not_le, ← Int32.not_lt, gi, zb])
set_option maxRecDepth 20000 in
set_option maxHeartbeats 1000000 in
theorem cX_as {G : zh_G} {l : Launch} {h : zh_H} {k : Int32} {v : Int64} : zc G l yX7_asKind cX7_asKind 3 (some .long) 0 [.int k, .long v] h 0 0 (fun o h' => o = some (.long (s_as k v)) ∧ h' = h) := by
  refine zc.of (by decide) (Nat.le_of_ble_eq_true rfl) ?_
  refine zv_iload_n dX7_asKind_0 rfl ?_
  by_cases e0 : k = 0
  · subst e0
    refine zv_tableIn (tgt := 44) dX7_asKind_1 (by decide) (by decide) rfl (by decide) ?_
    refine zv_lload_n dX7_asKind_44 rfl ?_
    refine zv_lconstv (v := 0) dX7_asKind_45 (by decide) ?_
    refine zv_lcmp dX7_asKind_46 ?_
    refine zv_if_eq (tgt := 54) dX7_asKind_47 (by decide) (fun c47 => ?_) (fun c47 => ?_)
    · skip
      refine zv_lconstv (v := 0) dX7_asKind_54 (by decide) ?_
      exact zv_lreturn dX7_asKind_55 rfl (by refine ⟨?_, rfl⟩; simp_all [s_as, cmp_eq])
    · skip
      refine zv_lconstv (v := 1) dX7_asKind_50 (by decide) ?_
      refine zv_goto (tgt := 55) dX7_asKind_51 (by decide) ?_
      exact zv_lreturn dX7_asKind_55 rfl (by refine ⟨?_, rfl⟩; simp_all [s_as, cmp_eq])
  by_cases e1 : k = 1
  · subst e1
    refine zv_tableIn (tgt := 56) dX7_asKind_1 (by decide) (by decide) rfl (by decide) ?_
    refine zv_lload_n dX7_asKind_56 rfl ?_
    refine zv_l2i dX7_asKind_57 ?_
    refine zv_i2b dX7_asKind_58 ?_
    refine zv_i2l dX7_asKind_59 ?_
    exact zv_lreturn dX7_asKind_60 rfl (by refine ⟨?_, rfl⟩; simp_all [s_as, cmp_eq])
  by_cases e2 : k = 2
  · subst e2
    refine zv_tableIn (tgt := 61) dX7_asKind_1 (by decide) (by decide) rfl (by decide) ?_
    refine zv_lload_n dX7_asKind_61 rfl ?_
    refine zv_l2i dX7_asKind_62 ?_
    refine zv_i2c dX7_asKind_63 ?_
    refine zv_i2l dX7_asKind_64 ?_
    exact zv_lreturn dX7_asKind_65 rfl (by refine ⟨?_, rfl⟩; simp_all [s_as, cmp_eq])
  by_cases e3 : k = 3
  · subst e3
    refine zv_tableIn (tgt := 66) dX7_asKind_1 (by decide) (by decide) rfl (by decide) ?_
    refine zv_lload_n dX7_asKind_66 rfl ?_
    refine zv_l2i dX7_asKind_67 ?_
    refine zv_i2s dX7_asKind_68 ?_
    refine zv_i2l dX7_asKind_69 ?_
    exact zv_lreturn dX7_asKind_70 rfl (by refine ⟨?_, rfl⟩; simp_all [s_as, cmp_eq])
  by_cases e4 : k = 4
  · subst e4
    refine zv_tableIn (tgt := 71) dX7_asKind_1 (by decide) (by decide) rfl (by decide) ?_
    refine zv_lload_n dX7_asKind_71 rfl ?_
    refine zv_l2i dX7_asKind_72 ?_
    refine zv_i2l dX7_asKind_73 ?_
    exact zv_lreturn dX7_asKind_74 rfl (by refine ⟨?_, rfl⟩; simp_all [s_as, cmp_eq])
  by_cases e5 : k = 5
  · subst e5
    refine zv_tableIn (tgt := 75) dX7_asKind_1 (by decide) (by decide) rfl (by decide) ?_
    refine zv_lload_n dX7_asKind_75 rfl ?_
    exact zv_lreturn dX7_asKind_76 rfl (by refine ⟨?_, rfl⟩; simp_all [s_as, cmp_eq])
  by_cases e6 : k = 6
  · subst e6
    refine zv_tableIn (tgt := 77) dX7_asKind_1 (by decide) (by decide) rfl (by decide) ?_
    refine zv_lload_n dX7_asKind_77 rfl ?_
    refine zv_l2f dX7_asKind_78 ?_
    refine zv_f2l dX7_asKind_79 ?_
    exact zv_lreturn dX7_asKind_80 rfl (by refine ⟨?_, rfl⟩; simp_all [s_as, cmp_eq])
  have hout : k.toInt < 0 ∨ 6 < k.toInt := by
    have := lv_neT (a := 0) e0 (by decide); have := lv_neT (a := 1) e1 (by decide); have := lv_neT (a := 2) e2 (by decide); have := lv_neT (a := 3) e3 (by decide); have := lv_neT (a := 4) e4 (by decide); have := lv_neT (a := 5) e5 (by decide); have := lv_neT (a := 6) e6 (by decide)
    omega
  refine zv_tableOut (tgt := 81) dX7_asKind_1 hout (by decide) ?_
  refine zv_lload_n dX7_asKind_81 rfl ?_
  refine zv_l2d dX7_asKind_82 ?_
  refine zv_d2l dX7_asKind_83 ?_
  exact zv_lreturn dX7_asKind_84 rfl (by refine ⟨?_, rfl⟩; simp_all [s_as, cmp_eq])
set_option maxRecDepth 20000 in
set_option maxHeartbeats 1000000 in
theorem cX_holdN {G : zh_G} {l : Launch} {f : Nat → va_E} {nn : Nat} {c : Nat} {k0 a0 t0 : Value} (hc : f c = .inr (0, [k0, a0, t0])) (hc1 : zg_B G ≤ c) (hc2 : c < nn) {k : Int32} {v : Int64} : zc G l yX0_holdNumber cX0_holdNumber 4 none 1 [.ref c, .int k, .long v] (f, nn) 0 0 (fun o h' => o = none ∧ h' = (va_up f c (.inr (0, [.int k, .long (s_as k v), .null])), nn)) := by
  refine zc.of (by decide) (Nat.le_of_ble_eq_true rfl) ?_
  refine zv_aload_n dX0_holdNumber_0 rfl ?_
  refine zv_iload_n dX0_holdNumber_1 rfl ?_
  refine zv_put (fs := [k0, a0, t0]) zfw_X0_9_0 (by simp [va_up, hc]) hc1 hc2 rfl rfl (by simp) dX0_holdNumber_2 ?_
  refine zv_aload_n dX0_holdNumber_5 rfl ?_
  refine zv_iload_n dX0_holdNumber_6 rfl ?_
  refine zv_lload_n dX0_holdNumber_7 rfl ?_
  refine zv_callSq (mc := 0) (ms := 0) zm_X0_15 zkyX7_asKind cX_as rfl rfl (Nat.le_of_ble_eq_true rfl) (by decide) dX0_holdNumber_8 ?_
  refine zv_put (fs := [.int k, a0, t0]) zfw_X0_19_0 (by simp [va_up, hc]) hc1 hc2 rfl rfl (by simp) dX0_holdNumber_11 ?_
  refine zv_aload_n dX0_holdNumber_14 rfl ?_
  refine zv_null dX0_holdNumber_15 ?_
  refine zv_put (fs := [.int k, .long (s_as k v), t0]) zfw_X0_23_0 (by simp [va_up, hc]) hc1 hc2 rfl rfl (by simp) dX0_holdNumber_16 ?_
  exact zv_return dX0_holdNumber_19 rfl ⟨rfl, by simp [bx_uu]⟩
set_option maxRecDepth 20000 in
set_option maxHeartbeats 1000000 in
theorem cX_holdT0 {G : zh_G} {l : Launch} {f : Nat → va_E} {nn : Nat} {c : Nat} {k0 a0 t0 : Value} (hc : f c = .inr (0, [k0, a0, t0])) (hc1 : zg_B G ≤ c) (hc2 : c < nn)  : zc G l yX0_holdThing cX0_holdThing 4 none 0 [.ref c, .null] (f, nn) 0 0 (fun o h' => o = none ∧ h' = (va_up f c (.inr (0, [.int (-9), .long 0, .null])), nn)) := by
  refine zc.of (by decide) (Nat.le_of_ble_eq_true rfl) ?_
  refine zv_aload_n dX0_holdThing_0 rfl ?_
  refine zv_aload_nN dX0_holdThing_1 rfl ?_
  refine zv_put (fs := [k0, a0, t0]) zfw_X0_23_0 (by simp [va_up, hc]) hc1 hc2 rfl rfl (by simp) dX0_holdThing_2 ?_
  refine zv_aload_nN dX0_holdThing_5 rfl ?_
  refine zv_instN dX0_holdThing_6 ?_
  refine zv_if_eq (tgt := 47) dX0_holdThing_9 (by decide) (fun _ => ?_) (fun c => absurd rfl c)
  refine zv_aload_nN dX0_holdThing_47 rfl ?_
  refine zv_instN dX0_holdThing_48 ?_
  refine zv_if_eq (tgt := 77) dX0_holdThing_51 (by decide) (fun _ => ?_) (fun c => absurd rfl c)
  refine zv_aload_n dX0_holdThing_77 rfl ?_
  refine zv_bipushv (v := (-9)) dX0_holdThing_78 (by decide) ?_
  refine zv_put (fs := [k0, a0, .null]) zfw_X0_9_0 (by simp [va_up, hc]) hc1 hc2 rfl rfl (by simp) dX0_holdThing_80 ?_
  refine zv_aload_n dX0_holdThing_83 rfl ?_
  refine zv_lconstv (v := 0) dX0_holdThing_84 (by decide) ?_
  refine zv_put (fs := [.int (-9), a0, .null]) zfw_X0_19_0 (by simp [va_up, hc]) hc1 hc2 rfl rfl (by simp) dX0_holdThing_85 ?_
  exact zv_return dX0_holdThing_88 rfl ⟨rfl, by simp [bx_uu]⟩
theorem zv_top {G : zh_G} {l : Launch} {y : MethodName} {cc : ByteArray} {n : Nat} {r : Option FieldType} {d mc ms0 pc : Nat} {lv : List (Nat × Value)} {st : List Value} {h : zh_H} {Q : Option Value → zh_H → Prop} {x x' : Int32} (e : x = x') (kk : zv G l y cc n r d mc ms0 pc lv (.int x' :: st) h Q) : zv G l y cc n r d mc ms0 pc lv (.int x :: st) h Q := e ▸ kk
set_option maxRecDepth 20000 in
set_option maxHeartbeats 1000000 in
theorem cX_holdTP {G : zh_G} {l : Launch} {f : Nat → va_E} {nn : Nat} {c : Nat} {k0 a0 t0 : Value} (hc : f c = .inr (0, [k0, a0, t0])) (hc1 : zg_B G ≤ c) (hc2 : c < nn) {a : Nat} {p fn : Int32} (ha : f a = .inr (2, [.int p, .int fn])) (ha1 : zg_B G ≤ a) (ha2 : a < nn) (hac : ¬ a = c) : zc G l yX0_holdThing cX0_holdThing 4 none 0 [.ref c, .ref a] (f, nn) 0 0 (fun o h' => o = none ∧ h' = (va_up f c (.inr (0, [.int (if fn = 0 then 8 else 9), .long p.toInt64, .ref a])), nn)) := by
  refine zc.of (by decide) (Nat.le_of_ble_eq_true rfl) ?_
  refine zv_aload_n dX0_holdThing_0 rfl ?_
  refine zv_aload_n dX0_holdThing_1 rfl ?_
  refine zv_put (fs := [k0, a0, t0]) zfw_X0_23_0 (by simp [va_up, hc]) hc1 hc2 rfl rfl (by simp) dX0_holdThing_2 ?_
  refine zv_aload_n dX0_holdThing_5 rfl ?_
  refine zv_instY (ci := 2) (fs := [.int p, .int fn]) (by simp [va_up, hac, ha]) ha1 ha2 rfl zk_X0_27 (by decide +kernel) dX0_holdThing_6 ?_
  refine zv_if_eq (tgt := 47) dX0_holdThing_9 (by decide) (fun c => absurd c (by decide)) (fun _ => ?_)
  refine zv_aload_n dX0_holdThing_12 rfl ?_
  refine zv_castY (ci := 2) (fs := [.int p, .int fn]) (by simp [va_up, hac, ha]) ha1 ha2 rfl zk_X0_27 (by decide +kernel) dX0_holdThing_13 ?_
  refine zv_astore_n dX0_holdThing_16 (by decide) ?_
  refine zv_aload_n dX0_holdThing_17 rfl ?_
  refine zv_aload_n dX0_holdThing_18 rfl ?_
  refine zv_get (ci := 2) (fs := [.int p, .int fn]) zf_X0_29_2 (by simp [va_up, hac, ha]) ha1 ha2 rfl dX0_holdThing_19 ?_
  refine zv_if_eq (tgt := 30) dX0_holdThing_22 (by decide) (fun c22 => ?_) (fun c22 => ?_)
  · skip
    refine zv_bipushv (v := 8) dX0_holdThing_30 (by decide) ?_
    refine zv_top (x' := if fn = 0 then 8 else 9) (by simp [c22]) ?_
    refine zv_put (fs := [k0, a0, .ref a]) zfw_X0_9_0 (by simp [va_up, hc]) hc1 hc2 rfl rfl (by simp) dX0_holdThing_32 ?_
    refine zv_aload_n dX0_holdThing_35 rfl ?_
    refine zv_aload_n dX0_holdThing_36 rfl ?_
    refine zv_get (ci := 2) (fs := [.int p, .int fn]) zf_X0_33_2 (by simp [va_up, hac, ha]) ha1 ha2 rfl dX0_holdThing_37 ?_
    refine zv_i2l dX0_holdThing_40 ?_
    refine zv_put (fs := [.int (if fn = 0 then 8 else 9), a0, .ref a]) zfw_X0_19_0 (by simp [va_up, hc]) hc1 hc2 rfl rfl (by simp) dX0_holdThing_41 ?_
    refine zv_goto (tgt := 88) dX0_holdThing_44 (by decide) ?_
    exact zv_return dX0_holdThing_88 rfl ⟨rfl, by simp [bx_uu]⟩
  · skip
    refine zv_bipushv (v := 9) dX0_holdThing_25 (by decide) ?_
    refine zv_goto (tgt := 32) dX0_holdThing_27 (by decide) ?_
    refine zv_top (x' := if fn = 0 then 8 else 9) (by simp [c22]) ?_
    refine zv_put (fs := [k0, a0, .ref a]) zfw_X0_9_0 (by simp [va_up, hc]) hc1 hc2 rfl rfl (by simp) dX0_holdThing_32 ?_
    refine zv_aload_n dX0_holdThing_35 rfl ?_
    refine zv_aload_n dX0_holdThing_36 rfl ?_
    refine zv_get (ci := 2) (fs := [.int p, .int fn]) zf_X0_33_2 (by simp [va_up, hac, ha]) ha1 ha2 rfl dX0_holdThing_37 ?_
    refine zv_i2l dX0_holdThing_40 ?_
    refine zv_put (fs := [.int (if fn = 0 then 8 else 9), a0, .ref a]) zfw_X0_19_0 (by simp [va_up, hc]) hc1 hc2 rfl rfl (by simp) dX0_holdThing_41 ?_
    refine zv_goto (tgt := 88) dX0_holdThing_44 (by decide) ?_
    exact zv_return dX0_holdThing_88 rfl ⟨rfl, by simp [bx_uu]⟩
set_option maxRecDepth 20000 in
set_option maxHeartbeats 1000000 in
theorem cX_holdTR {G : zh_G} {l : Launch} {f : Nat → va_E} {nn : Nat} {c : Nat} {k0 a0 t0 : Value} (hc : f c = .inr (0, [k0, a0, t0])) (hc1 : zg_B G ≤ c) (hc2 : c < nn) {a b : Nat} {K S : Int32} (ha : f a = .inr (1, [.int K, .int S, .ref b])) (ha1 : zg_B G ≤ a) (ha2 : a < nn) (hac : ¬ a = c) : zc G l yX0_holdThing cX0_holdThing 4 none 0 [.ref c, .ref a] (f, nn) 0 0 (fun o h' => o = none ∧ h' = (va_up f c (.inr (0, [.int 10, .long S.toInt64, .ref a])), nn)) := by
  refine zc.of (by decide) (Nat.le_of_ble_eq_true rfl) ?_
  refine zv_aload_n dX0_holdThing_0 rfl ?_
  refine zv_aload_n dX0_holdThing_1 rfl ?_
  refine zv_put (fs := [k0, a0, t0]) zfw_X0_23_0 (by simp [va_up, hc]) hc1 hc2 rfl rfl (by simp) dX0_holdThing_2 ?_
  refine zv_aload_n dX0_holdThing_5 rfl ?_
  refine zv_instNo (ci := 1) (fs := [.int K, .int S, .ref b]) (by simp [va_up, hac, ha]) ha1 ha2 rfl zk_X0_27 (by decide +kernel) dX0_holdThing_6 ?_
  refine zv_if_eq (tgt := 47) dX0_holdThing_9 (by decide) (fun _ => ?_) (fun c => absurd rfl c)
  refine zv_aload_n dX0_holdThing_47 rfl ?_
  refine zv_instY (ci := 1) (fs := [.int K, .int S, .ref b]) (by simp [va_up, hac, ha]) ha1 ha2 rfl zk_X0_36 (by decide +kernel) dX0_holdThing_48 ?_
  refine zv_if_eq (tgt := 77) dX0_holdThing_51 (by decide) (fun c => absurd c (by decide)) (fun _ => ?_)
  refine zv_aload_n dX0_holdThing_54 rfl ?_
  refine zv_castY (ci := 1) (fs := [.int K, .int S, .ref b]) (by simp [va_up, hac, ha]) ha1 ha2 rfl zk_X0_36 (by decide +kernel) dX0_holdThing_55 ?_
  refine zv_astore_n dX0_holdThing_58 (by decide) ?_
  refine zv_aload_n dX0_holdThing_59 rfl ?_
  refine zv_bipushv (v := 10) dX0_holdThing_60 (by decide) ?_
  refine zv_put (fs := [k0, a0, .ref a]) zfw_X0_9_0 (by simp [va_up, hc]) hc1 hc2 rfl rfl (by simp) dX0_holdThing_62 ?_
  refine zv_aload_n dX0_holdThing_65 rfl ?_
  refine zv_aload_n dX0_holdThing_66 rfl ?_
  refine zv_get (ci := 1) (fs := [.int K, .int S, .ref b]) zf_X0_38_1 (by simp [va_up, hac, ha]) ha1 ha2 rfl dX0_holdThing_67 ?_
  refine zv_i2l dX0_holdThing_70 ?_
  refine zv_put (fs := [.int 10, a0, .ref a]) zfw_X0_19_0 (by simp [va_up, hc]) hc1 hc2 rfl rfl (by simp) dX0_holdThing_71 ?_
  refine zv_goto (tgt := 88) dX0_holdThing_74 (by decide) ?_
  exact zv_return dX0_holdThing_88 rfl ⟨rfl, by simp [bx_uu]⟩
end
section
theorem co_f {i S : Int32} (h : co i S = false) : ¬ i < 0 ∧ i < S := by
  unfold co at h
  simp only [decide_eq_false_iff_not, not_or, Int32.not_le] at h
  exact h
theorem co_t {i S : Int32} (h : co i S = true) : i < 0 ∨ ¬ i < S := by
  unfold co at h
  simp only [decide_eq_true_iff] at h
  exact h.imp id (fun h => Int32.not_lt.mpr h)
set_option maxRecDepth 20000 in
set_option maxHeartbeats 1000000 in
theorem cX_rowF0 {G : zh_G} {l : Launch} {f : Nat → va_E} {nn : Nat}  : zc G l yX7_rowFault cX7_rowFault 1 (some .int) 0 [.null] (f, nn) 0 0 (fun o h' => o = some (.int 1) ∧ h' = (f, nn)) := by
  refine zc.of (by decide) (Nat.le_of_ble_eq_true rfl) ?_
  refine zv_aload_nN dX7_rowFault_0 rfl ?_
  refine zv_ifnonnullN dX7_rowFault_1 ?_
  refine zv_iconstv (v := 1) dX7_rowFault_4 (by decide) ?_
  exact zv_ireturn dX7_rowFault_5 rfl ⟨rfl, rfl⟩
set_option maxRecDepth 20000 in
set_option maxHeartbeats 1000000 in
theorem cX_rowFP {G : zh_G} {l : Launch} {f : Nat → va_E} {nn : Nat} {a : Nat} {p fn : Int32} (ha : f a = .inr (2, [.int p, .int fn])) (ha1 : zg_B G ≤ a) (ha2 : a < nn)  : zc G l yX7_rowFault cX7_rowFault 1 (some .int) 0 [.ref a] (f, nn) 0 0 (fun o h' => o = some (.int 2) ∧ h' = (f, nn)) := by
  refine zc.of (by decide) (Nat.le_of_ble_eq_true rfl) ?_
  refine zv_aload_n dX7_rowFault_0 rfl ?_
  refine zv_ifnonnull (tgt := 6) dX7_rowFault_1 (by decide) ?_
  refine zv_aload_n dX7_rowFault_6 rfl ?_
  refine zv_instNo (ci := 2) (fs := [.int p, .int fn]) ha ha1 ha2 rfl zk_X7_151 (by decide +kernel) dX7_rowFault_7 ?_
  refine zv_if_eq (tgt := 17) dX7_rowFault_10 (by decide) (fun _ => ?_) (fun c => absurd rfl c)
  refine zv_iconstv (v := 2) dX7_rowFault_17 (by decide) ?_
  exact zv_ireturn dX7_rowFault_18 rfl ⟨rfl, rfl⟩
set_option maxRecDepth 20000 in
set_option maxHeartbeats 1000000 in
theorem cX_rowFN {G : zh_G} {l : Launch} {f : Nat → va_E} {nn : Nat} {a b s : Nat} {K : Int32} {num : Nat → Int64} (ha : f a = .inr (1, [.int K, .int (nI s), .ref b])) (hb : f b = .inl (zg_c G 1, s, .inr (.inl num))) (ha1 : zg_B G ≤ a) (ha2 : a < nn) (hb1 : zg_B G ≤ b) (hb2 : b < nn) (hs : s ≤ 16)  : zc G l yX7_rowFault cX7_rowFault 1 (some .int) 0 [.ref a] (f, nn) 0 0 (fun o h' => o = some (.int 0) ∧ h' = (f, nn)) := by
  refine zc.of (by decide) (Nat.le_of_ble_eq_true rfl) ?_
  refine zv_aload_n dX7_rowFault_0 rfl ?_
  refine zv_ifnonnull (tgt := 6) dX7_rowFault_1 (by decide) ?_
  refine zv_aload_n dX7_rowFault_6 rfl ?_
  refine zv_instY (ci := 1) (fs := [.int K, .int (nI s), .ref b]) ha ha1 ha2 rfl zk_X7_151 (by decide +kernel) dX7_rowFault_7 ?_
  refine zv_if_eq (tgt := 17) dX7_rowFault_10 (by decide) (fun c => absurd c (by decide)) (fun _ => ?_)
  refine zv_iconstv (v := 0) dX7_rowFault_13 (by decide) ?_
  refine zv_goto (tgt := 18) dX7_rowFault_14 (by decide) ?_
  exact zv_ireturn dX7_rowFault_18 rfl ⟨rfl, rfl⟩
set_option maxRecDepth 20000 in
set_option maxHeartbeats 1000000 in
theorem cX_rowFT {G : zh_G} {l : Launch} {f : Nat → va_E} {nn : Nat} {a b s : Nat} {K : Int32} {thg : Nat → Option Nat} (ha : f a = .inr (4, [.int K, .int (nI s), .ref b])) (hb : f b = .inl (zg_c G 3, s, .inr (.inr (.inr (.inr thg))))) (ha1 : zg_B G ≤ a) (ha2 : a < nn) (hb1 : zg_B G ≤ b) (hb2 : b < nn) (hs : s ≤ 16)  : zc G l yX7_rowFault cX7_rowFault 1 (some .int) 0 [.ref a] (f, nn) 0 0 (fun o h' => o = some (.int 0) ∧ h' = (f, nn)) := by
  refine zc.of (by decide) (Nat.le_of_ble_eq_true rfl) ?_
  refine zv_aload_n dX7_rowFault_0 rfl ?_
  refine zv_ifnonnull (tgt := 6) dX7_rowFault_1 (by decide) ?_
  refine zv_aload_n dX7_rowFault_6 rfl ?_
  refine zv_instY (ci := 4) (fs := [.int K, .int (nI s), .ref b]) ha ha1 ha2 rfl zk_X7_151 (by decide +kernel) dX7_rowFault_7 ?_
  refine zv_if_eq (tgt := 17) dX7_rowFault_10 (by decide) (fun c => absurd c (by decide)) (fun _ => ?_)
  refine zv_iconstv (v := 0) dX7_rowFault_13 (by decide) ?_
  refine zv_goto (tgt := 18) dX7_rowFault_14 (by decide) ?_
  exact zv_ireturn dX7_rowFault_18 rfl ⟨rfl, rfl⟩
set_option maxRecDepth 20000 in
set_option maxHeartbeats 1000000 in
theorem cX_plc0 {G : zh_G} {l : Launch} {f : Nat → va_E} {nn : Nat}  : zc G l yX7_placesOf cX7_placesOf 2 (some .int) 0 [.null] (f, nn) 0 0 (fun o h' => o = some (.int 0) ∧ h' = (f, nn)) := by
  refine zc.of (by decide) (Nat.le_of_ble_eq_true rfl) ?_
  refine zv_aload_nN dX7_placesOf_0 rfl ?_
  refine zv_instN dX7_placesOf_1 ?_
  refine zv_if_eq (tgt := 19) dX7_placesOf_4 (by decide) (fun _ => ?_) (fun c => absurd rfl c)
  refine zv_iconstv (v := 0) dX7_placesOf_19 (by decide) ?_
  exact zv_ireturn dX7_placesOf_20 rfl ⟨rfl, rfl⟩
set_option maxRecDepth 20000 in
set_option maxHeartbeats 1000000 in
theorem cX_plcP {G : zh_G} {l : Launch} {f : Nat → va_E} {nn : Nat} {a : Nat} {p fn : Int32} (ha : f a = .inr (2, [.int p, .int fn])) (ha1 : zg_B G ≤ a) (ha2 : a < nn)  : zc G l yX7_placesOf cX7_placesOf 2 (some .int) 0 [.ref a] (f, nn) 0 0 (fun o h' => o = some (.int 0) ∧ h' = (f, nn)) := by
  refine zc.of (by decide) (Nat.le_of_ble_eq_true rfl) ?_
  refine zv_aload_n dX7_placesOf_0 rfl ?_
  refine zv_instNo (ci := 2) (fs := [.int p, .int fn]) ha ha1 ha2 rfl zk_X7_151 (by decide +kernel) dX7_placesOf_1 ?_
  refine zv_if_eq (tgt := 19) dX7_placesOf_4 (by decide) (fun _ => ?_) (fun c => absurd rfl c)
  refine zv_iconstv (v := 0) dX7_placesOf_19 (by decide) ?_
  exact zv_ireturn dX7_placesOf_20 rfl ⟨rfl, rfl⟩
set_option maxRecDepth 20000 in
set_option maxHeartbeats 1000000 in
theorem cX_plcN {G : zh_G} {l : Launch} {f : Nat → va_E} {nn : Nat} {a b s : Nat} {K : Int32} {num : Nat → Int64} (ha : f a = .inr (1, [.int K, .int (nI s), .ref b])) (hb : f b = .inl (zg_c G 1, s, .inr (.inl num))) (ha1 : zg_B G ≤ a) (ha2 : a < nn) (hb1 : zg_B G ≤ b) (hb2 : b < nn) (hs : s ≤ 16)  : zc G l yX7_placesOf cX7_placesOf 2 (some .int) 0 [.ref a] (f, nn) 0 0 (fun o h' => o = some (.int (nI s)) ∧ h' = (f, nn)) := by
  refine zc.of (by decide) (Nat.le_of_ble_eq_true rfl) ?_
  refine zv_aload_n dX7_placesOf_0 rfl ?_
  refine zv_instY (ci := 1) (fs := [.int K, .int (nI s), .ref b]) ha ha1 ha2 rfl zk_X7_151 (by decide +kernel) dX7_placesOf_1 ?_
  refine zv_if_eq (tgt := 19) dX7_placesOf_4 (by decide) (fun c => absurd c (by decide)) (fun _ => ?_)
  refine zv_aload_n dX7_placesOf_7 rfl ?_
  refine zv_castY (ci := 1) (fs := [.int K, .int (nI s), .ref b]) ha ha1 ha2 rfl zk_X7_151 (by decide +kernel) dX7_placesOf_8 ?_
  refine zv_astore_n dX7_placesOf_11 (by decide) ?_
  refine zv_aload_n dX7_placesOf_12 rfl ?_
  refine zv_get (ci := 1) (fs := [.int K, .int (nI s), .ref b]) zf_X7_161_1 ha ha1 ha2 rfl dX7_placesOf_13 ?_
  refine zv_goto (tgt := 20) dX7_placesOf_16 (by decide) ?_
  exact zv_ireturn dX7_placesOf_20 rfl ⟨rfl, rfl⟩
set_option maxRecDepth 20000 in
set_option maxHeartbeats 1000000 in
theorem cX_plcT {G : zh_G} {l : Launch} {f : Nat → va_E} {nn : Nat} {a b s : Nat} {K : Int32} {thg : Nat → Option Nat} (ha : f a = .inr (4, [.int K, .int (nI s), .ref b])) (hb : f b = .inl (zg_c G 3, s, .inr (.inr (.inr (.inr thg))))) (ha1 : zg_B G ≤ a) (ha2 : a < nn) (hb1 : zg_B G ≤ b) (hb2 : b < nn) (hs : s ≤ 16)  : zc G l yX7_placesOf cX7_placesOf 2 (some .int) 0 [.ref a] (f, nn) 0 0 (fun o h' => o = some (.int (nI s)) ∧ h' = (f, nn)) := by
  refine zc.of (by decide) (Nat.le_of_ble_eq_true rfl) ?_
  refine zv_aload_n dX7_placesOf_0 rfl ?_
  refine zv_instY (ci := 4) (fs := [.int K, .int (nI s), .ref b]) ha ha1 ha2 rfl zk_X7_151 (by decide +kernel) dX7_placesOf_1 ?_
  refine zv_if_eq (tgt := 19) dX7_placesOf_4 (by decide) (fun c => absurd c (by decide)) (fun _ => ?_)
  refine zv_aload_n dX7_placesOf_7 rfl ?_
  refine zv_castY (ci := 4) (fs := [.int K, .int (nI s), .ref b]) ha ha1 ha2 rfl zk_X7_151 (by decide +kernel) dX7_placesOf_8 ?_
  refine zv_astore_n dX7_placesOf_11 (by decide) ?_
  refine zv_aload_n dX7_placesOf_12 rfl ?_
  refine zv_get (ci := 4) (fs := [.int K, .int (nI s), .ref b]) zf_X7_161_4 ha ha1 ha2 rfl dX7_placesOf_13 ?_
  refine zv_goto (tgt := 20) dX7_placesOf_16 (by decide) ?_
  exact zv_ireturn dX7_placesOf_20 rfl ⟨rfl, rfl⟩
set_option maxRecDepth 20000 in
set_option maxHeartbeats 1000000 in
theorem cX_plF0 {G : zh_G} {l : Launch} {f : Nat → va_E} {nn : Nat} {i : Int32}  : zc G l yX7_placeFault cX7_placeFault 3 (some .int) 1 [.null, .int i] (f, nn) 0 0 (fun o h' => o = some (.int 1) ∧ h' = (f, nn)) := by
  refine zc.of (by decide) (Nat.le_of_ble_eq_true rfl) ?_
  refine zv_aload_nN dX7_placeFault_0 rfl ?_
  refine zv_callSq (mc := 0) (ms := 0) zm_X7_98 zkyX7_rowFault (cX_rowF0) rfl rfl (Nat.le_of_ble_eq_true rfl) (by decide) dX7_placeFault_1 ?_
  refine zv_istore_n dX7_placeFault_4 (by decide) ?_
  refine zv_iload_n dX7_placeFault_5 rfl ?_
  refine zv_if_eq (tgt := 11) dX7_placeFault_6 (by decide) (fun c => absurd c (by decide)) (fun _ => ?_)
  refine zv_iload_n dX7_placeFault_9 rfl ?_
  exact zv_ireturn dX7_placeFault_10 rfl ⟨rfl, rfl⟩
set_option maxRecDepth 20000 in
set_option maxHeartbeats 1000000 in
theorem cX_plFP {G : zh_G} {l : Launch} {f : Nat → va_E} {nn : Nat} {i : Int32} {a : Nat} {p fn : Int32} (ha : f a = .inr (2, [.int p, .int fn])) (ha1 : zg_B G ≤ a) (ha2 : a < nn)  : zc G l yX7_placeFault cX7_placeFault 3 (some .int) 1 [.ref a, .int i] (f, nn) 0 0 (fun o h' => o = some (.int 2) ∧ h' = (f, nn)) := by
  refine zc.of (by decide) (Nat.le_of_ble_eq_true rfl) ?_
  refine zv_aload_n dX7_placeFault_0 rfl ?_
  refine zv_callSq (mc := 0) (ms := 0) zm_X7_98 zkyX7_rowFault (cX_rowFP ha ha1 ha2) rfl rfl (Nat.le_of_ble_eq_true rfl) (by decide) dX7_placeFault_1 ?_
  refine zv_istore_n dX7_placeFault_4 (by decide) ?_
  refine zv_iload_n dX7_placeFault_5 rfl ?_
  refine zv_if_eq (tgt := 11) dX7_placeFault_6 (by decide) (fun c => absurd c (by decide)) (fun _ => ?_)
  refine zv_iload_n dX7_placeFault_9 rfl ?_
  exact zv_ireturn dX7_placeFault_10 rfl ⟨rfl, rfl⟩
set_option maxRecDepth 20000 in
set_option maxHeartbeats 1000000 in
theorem cX_plFNi {G : zh_G} {l : Launch} {f : Nat → va_E} {nn : Nat} {i : Int32} {a b s : Nat} {K : Int32} {num : Nat → Int64} (ha : f a = .inr (1, [.int K, .int (nI s), .ref b])) (hb : f b = .inl (zg_c G 1, s, .inr (.inl num))) (ha1 : zg_B G ≤ a) (ha2 : a < nn) (hb1 : zg_B G ≤ b) (hb2 : b < nn) (hs : s ≤ 16) (hco : co i (nI s) = false)  : zc G l yX7_placeFault cX7_placeFault 3 (some .int) 1 [.ref a, .int i] (f, nn) 0 0 (fun o h' => o = some (.int 0) ∧ h' = (f, nn)) := by
  refine zc.of (by decide) (Nat.le_of_ble_eq_true rfl) ?_
  refine zv_aload_n dX7_placeFault_0 rfl ?_
  refine zv_callSq (mc := 0) (ms := 0) zm_X7_98 zkyX7_rowFault (cX_rowFN ha hb ha1 ha2 hb1 hb2 hs) rfl rfl (Nat.le_of_ble_eq_true rfl) (by decide) dX7_placeFault_1 ?_
  refine zv_istore_n dX7_placeFault_4 (by decide) ?_
  refine zv_iload_n dX7_placeFault_5 rfl ?_
  refine zv_if_eq (tgt := 11) dX7_placeFault_6 (by decide) (fun _ => ?_) (fun c => absurd rfl c)
  refine zv_iload_n dX7_placeFault_11 rfl ?_
  refine zv_if_lt (tgt := 23) dX7_placeFault_12 (by decide) (fun c12 => ?_) (fun c12 => ?_)
  · exact absurd c12 (co_f hco).1
  · skip
    refine zv_iload_n dX7_placeFault_15 rfl ?_
    refine zv_aload_n dX7_placeFault_16 rfl ?_
    refine zv_callSq (mc := 0) (ms := 0) zm_X7_102 zkyX7_placesOf (cX_plcN ha hb ha1 ha2 hb1 hb2 hs) rfl rfl (Nat.le_of_ble_eq_true rfl) (by decide) dX7_placeFault_17 ?_
    refine zv_icmp_lt (tgt := 27) dX7_placeFault_20 (by decide) (fun c20 => ?_) (fun c20 => ?_)
    · skip
      refine zv_iconstv (v := 0) dX7_placeFault_27 (by decide) ?_
      exact zv_ireturn dX7_placeFault_28 rfl ⟨rfl, rfl⟩
    · exact absurd (co_f hco).2 c20
set_option maxRecDepth 20000 in
set_option maxHeartbeats 1000000 in
theorem cX_plFNo {G : zh_G} {l : Launch} {f : Nat → va_E} {nn : Nat} {i : Int32} {a b s : Nat} {K : Int32} {num : Nat → Int64} (ha : f a = .inr (1, [.int K, .int (nI s), .ref b])) (hb : f b = .inl (zg_c G 1, s, .inr (.inl num))) (ha1 : zg_B G ≤ a) (ha2 : a < nn) (hb1 : zg_B G ≤ b) (hb2 : b < nn) (hs : s ≤ 16) (hco : co i (nI s) = true)  : zc G l yX7_placeFault cX7_placeFault 3 (some .int) 1 [.ref a, .int i] (f, nn) 0 0 (fun o h' => o = some (.int 3) ∧ h' = (f, nn)) := by
  refine zc.of (by decide) (Nat.le_of_ble_eq_true rfl) ?_
  refine zv_aload_n dX7_placeFault_0 rfl ?_
  refine zv_callSq (mc := 0) (ms := 0) zm_X7_98 zkyX7_rowFault (cX_rowFN ha hb ha1 ha2 hb1 hb2 hs) rfl rfl (Nat.le_of_ble_eq_true rfl) (by decide) dX7_placeFault_1 ?_
  refine zv_istore_n dX7_placeFault_4 (by decide) ?_
  refine zv_iload_n dX7_placeFault_5 rfl ?_
  refine zv_if_eq (tgt := 11) dX7_placeFault_6 (by decide) (fun _ => ?_) (fun c => absurd rfl c)
  refine zv_iload_n dX7_placeFault_11 rfl ?_
  refine zv_if_lt (tgt := 23) dX7_placeFault_12 (by decide) (fun c12 => ?_) (fun c12 => ?_)
  · skip
    refine zv_iconstv (v := 3) dX7_placeFault_23 (by decide) ?_
    refine zv_goto (tgt := 28) dX7_placeFault_24 (by decide) ?_
    exact zv_ireturn dX7_placeFault_28 rfl ⟨rfl, rfl⟩
  · skip
    refine zv_iload_n dX7_placeFault_15 rfl ?_
    refine zv_aload_n dX7_placeFault_16 rfl ?_
    refine zv_callSq (mc := 0) (ms := 0) zm_X7_102 zkyX7_placesOf (cX_plcN ha hb ha1 ha2 hb1 hb2 hs) rfl rfl (Nat.le_of_ble_eq_true rfl) (by decide) dX7_placeFault_17 ?_
    refine zv_icmp_lt (tgt := 27) dX7_placeFault_20 (by decide) (fun c20 => ?_) (fun c20 => ?_)
    · exact absurd c20 ((co_t hco).resolve_left c12)
    · skip
      refine zv_iconstv (v := 3) dX7_placeFault_23 (by decide) ?_
      refine zv_goto (tgt := 28) dX7_placeFault_24 (by decide) ?_
      exact zv_ireturn dX7_placeFault_28 rfl ⟨rfl, rfl⟩
set_option maxRecDepth 20000 in
set_option maxHeartbeats 1000000 in
theorem cX_plFTi {G : zh_G} {l : Launch} {f : Nat → va_E} {nn : Nat} {i : Int32} {a b s : Nat} {K : Int32} {thg : Nat → Option Nat} (ha : f a = .inr (4, [.int K, .int (nI s), .ref b])) (hb : f b = .inl (zg_c G 3, s, .inr (.inr (.inr (.inr thg))))) (ha1 : zg_B G ≤ a) (ha2 : a < nn) (hb1 : zg_B G ≤ b) (hb2 : b < nn) (hs : s ≤ 16) (hco : co i (nI s) = false)  : zc G l yX7_placeFault cX7_placeFault 3 (some .int) 1 [.ref a, .int i] (f, nn) 0 0 (fun o h' => o = some (.int 0) ∧ h' = (f, nn)) := by
  refine zc.of (by decide) (Nat.le_of_ble_eq_true rfl) ?_
  refine zv_aload_n dX7_placeFault_0 rfl ?_
  refine zv_callSq (mc := 0) (ms := 0) zm_X7_98 zkyX7_rowFault (cX_rowFT ha hb ha1 ha2 hb1 hb2 hs) rfl rfl (Nat.le_of_ble_eq_true rfl) (by decide) dX7_placeFault_1 ?_
  refine zv_istore_n dX7_placeFault_4 (by decide) ?_
  refine zv_iload_n dX7_placeFault_5 rfl ?_
  refine zv_if_eq (tgt := 11) dX7_placeFault_6 (by decide) (fun _ => ?_) (fun c => absurd rfl c)
  refine zv_iload_n dX7_placeFault_11 rfl ?_
  refine zv_if_lt (tgt := 23) dX7_placeFault_12 (by decide) (fun c12 => ?_) (fun c12 => ?_)
  · exact absurd c12 (co_f hco).1
  · skip
    refine zv_iload_n dX7_placeFault_15 rfl ?_
    refine zv_aload_n dX7_placeFault_16 rfl ?_
    refine zv_callSq (mc := 0) (ms := 0) zm_X7_102 zkyX7_placesOf (cX_plcT ha hb ha1 ha2 hb1 hb2 hs) rfl rfl (Nat.le_of_ble_eq_true rfl) (by decide) dX7_placeFault_17 ?_
    refine zv_icmp_lt (tgt := 27) dX7_placeFault_20 (by decide) (fun c20 => ?_) (fun c20 => ?_)
    · skip
      refine zv_iconstv (v := 0) dX7_placeFault_27 (by decide) ?_
      exact zv_ireturn dX7_placeFault_28 rfl ⟨rfl, rfl⟩
    · exact absurd (co_f hco).2 c20
set_option maxRecDepth 20000 in
set_option maxHeartbeats 1000000 in
theorem cX_plFTo {G : zh_G} {l : Launch} {f : Nat → va_E} {nn : Nat} {i : Int32} {a b s : Nat} {K : Int32} {thg : Nat → Option Nat} (ha : f a = .inr (4, [.int K, .int (nI s), .ref b])) (hb : f b = .inl (zg_c G 3, s, .inr (.inr (.inr (.inr thg))))) (ha1 : zg_B G ≤ a) (ha2 : a < nn) (hb1 : zg_B G ≤ b) (hb2 : b < nn) (hs : s ≤ 16) (hco : co i (nI s) = true)  : zc G l yX7_placeFault cX7_placeFault 3 (some .int) 1 [.ref a, .int i] (f, nn) 0 0 (fun o h' => o = some (.int 3) ∧ h' = (f, nn)) := by
  refine zc.of (by decide) (Nat.le_of_ble_eq_true rfl) ?_
  refine zv_aload_n dX7_placeFault_0 rfl ?_
  refine zv_callSq (mc := 0) (ms := 0) zm_X7_98 zkyX7_rowFault (cX_rowFT ha hb ha1 ha2 hb1 hb2 hs) rfl rfl (Nat.le_of_ble_eq_true rfl) (by decide) dX7_placeFault_1 ?_
  refine zv_istore_n dX7_placeFault_4 (by decide) ?_
  refine zv_iload_n dX7_placeFault_5 rfl ?_
  refine zv_if_eq (tgt := 11) dX7_placeFault_6 (by decide) (fun _ => ?_) (fun c => absurd rfl c)
  refine zv_iload_n dX7_placeFault_11 rfl ?_
  refine zv_if_lt (tgt := 23) dX7_placeFault_12 (by decide) (fun c12 => ?_) (fun c12 => ?_)
  · skip
    refine zv_iconstv (v := 3) dX7_placeFault_23 (by decide) ?_
    refine zv_goto (tgt := 28) dX7_placeFault_24 (by decide) ?_
    exact zv_ireturn dX7_placeFault_28 rfl ⟨rfl, rfl⟩
  · skip
    refine zv_iload_n dX7_placeFault_15 rfl ?_
    refine zv_aload_n dX7_placeFault_16 rfl ?_
    refine zv_callSq (mc := 0) (ms := 0) zm_X7_102 zkyX7_placesOf (cX_plcT ha hb ha1 ha2 hb1 hb2 hs) rfl rfl (Nat.le_of_ble_eq_true rfl) (by decide) dX7_placeFault_17 ?_
    refine zv_icmp_lt (tgt := 27) dX7_placeFault_20 (by decide) (fun c20 => ?_) (fun c20 => ?_)
    · exact absurd c20 ((co_t hco).resolve_left c12)
    · skip
      refine zv_iconstv (v := 3) dX7_placeFault_23 (by decide) ?_
      refine zv_goto (tgt := 28) dX7_placeFault_24 (by decide) ?_
      exact zv_ireturn dX7_placeFault_28 rfl ⟨rfl, rfl⟩
set_option maxRecDepth 20000 in
set_option maxHeartbeats 1000000 in
theorem cX_get0 {G : zh_G} {l : Launch} {f : Nat → va_E} {nn : Nat} {i : Int32} {c : Nat} {k0 a0 t0 : Value} (hc : f c = .inr (0, [k0, a0, t0])) (hc1 : zg_B G ≤ c) (hc2 : c < nn)  : zc G l yX7_getPlace cX7_getPlace 6 (some .int) 2 [.null, .int i, .ref c] (f, nn) 0 0 (fun o h' => o = some (.int 1) ∧ h' = (f, nn)) := by
  refine zc.of (by decide) (Nat.le_of_ble_eq_true rfl) ?_
  refine zv_aload_nN dX7_getPlace_0 rfl ?_
  refine zv_iload_n dX7_getPlace_1 rfl ?_
  refine zv_callSq (mc := 0) (ms := 0) zm_X7_121 zkyX7_placeFault (cX_plF0) rfl rfl (Nat.le_of_ble_eq_true rfl) (by decide) dX7_getPlace_2 ?_
  refine zv_istore_n dX7_getPlace_5 (by decide) ?_
  refine zv_iload_n dX7_getPlace_6 rfl ?_
  refine zv_if_eq (tgt := 12) dX7_getPlace_7 (by decide) (fun c => absurd c (by decide)) (fun _ => ?_)
  refine zv_iload_n dX7_getPlace_10 rfl ?_
  exact zv_ireturn dX7_getPlace_11 rfl ⟨rfl, rfl⟩
set_option maxRecDepth 20000 in
set_option maxHeartbeats 1000000 in
theorem cX_getP {G : zh_G} {l : Launch} {f : Nat → va_E} {nn : Nat} {i : Int32} {c : Nat} {k0 a0 t0 : Value} (hc : f c = .inr (0, [k0, a0, t0])) (hc1 : zg_B G ≤ c) (hc2 : c < nn) {a : Nat} {p fn : Int32} (ha : f a = .inr (2, [.int p, .int fn])) (ha1 : zg_B G ≤ a) (ha2 : a < nn)  : zc G l yX7_getPlace cX7_getPlace 6 (some .int) 2 [.ref a, .int i, .ref c] (f, nn) 0 0 (fun o h' => o = some (.int 2) ∧ h' = (f, nn)) := by
  refine zc.of (by decide) (Nat.le_of_ble_eq_true rfl) ?_
  refine zv_aload_n dX7_getPlace_0 rfl ?_
  refine zv_iload_n dX7_getPlace_1 rfl ?_
  refine zv_callSq (mc := 0) (ms := 0) zm_X7_121 zkyX7_placeFault (cX_plFP ha ha1 ha2) rfl rfl (Nat.le_of_ble_eq_true rfl) (by decide) dX7_getPlace_2 ?_
  refine zv_istore_n dX7_getPlace_5 (by decide) ?_
  refine zv_iload_n dX7_getPlace_6 rfl ?_
  refine zv_if_eq (tgt := 12) dX7_getPlace_7 (by decide) (fun c => absurd c (by decide)) (fun _ => ?_)
  refine zv_iload_n dX7_getPlace_10 rfl ?_
  exact zv_ireturn dX7_getPlace_11 rfl ⟨rfl, rfl⟩
set_option maxRecDepth 20000 in
set_option maxHeartbeats 1000000 in
theorem cX_getNo {G : zh_G} {l : Launch} {f : Nat → va_E} {nn : Nat} {i : Int32} {c : Nat} {k0 a0 t0 : Value} (hc : f c = .inr (0, [k0, a0, t0])) (hc1 : zg_B G ≤ c) (hc2 : c < nn) {a b s : Nat} {K : Int32} {num : Nat → Int64} (ha : f a = .inr (1, [.int K, .int (nI s), .ref b])) (hb : f b = .inl (zg_c G 1, s, .inr (.inl num))) (ha1 : zg_B G ≤ a) (ha2 : a < nn) (hb1 : zg_B G ≤ b) (hb2 : b < nn) (hs : s ≤ 16) (hco : co i (nI s) = true)  : zc G l yX7_getPlace cX7_getPlace 6 (some .int) 2 [.ref a, .int i, .ref c] (f, nn) 0 0 (fun o h' => o = some (.int 3) ∧ h' = (f, nn)) := by
  refine zc.of (by decide) (Nat.le_of_ble_eq_true rfl) ?_
  refine zv_aload_n dX7_getPlace_0 rfl ?_
  refine zv_iload_n dX7_getPlace_1 rfl ?_
  refine zv_callSq (mc := 0) (ms := 0) zm_X7_121 zkyX7_placeFault (cX_plFNo ha hb ha1 ha2 hb1 hb2 hs hco) rfl rfl (Nat.le_of_ble_eq_true rfl) (by decide) dX7_getPlace_2 ?_
  refine zv_istore_n dX7_getPlace_5 (by decide) ?_
  refine zv_iload_n dX7_getPlace_6 rfl ?_
  refine zv_if_eq (tgt := 12) dX7_getPlace_7 (by decide) (fun c => absurd c (by decide)) (fun _ => ?_)
  refine zv_iload_n dX7_getPlace_10 rfl ?_
  exact zv_ireturn dX7_getPlace_11 rfl ⟨rfl, rfl⟩
set_option maxRecDepth 20000 in
set_option maxHeartbeats 1000000 in
theorem cX_getTo {G : zh_G} {l : Launch} {f : Nat → va_E} {nn : Nat} {i : Int32} {c : Nat} {k0 a0 t0 : Value} (hc : f c = .inr (0, [k0, a0, t0])) (hc1 : zg_B G ≤ c) (hc2 : c < nn) {a b s : Nat} {K : Int32} {thg : Nat → Option Nat} (ha : f a = .inr (4, [.int K, .int (nI s), .ref b])) (hb : f b = .inl (zg_c G 3, s, .inr (.inr (.inr (.inr thg))))) (ha1 : zg_B G ≤ a) (ha2 : a < nn) (hb1 : zg_B G ≤ b) (hb2 : b < nn) (hs : s ≤ 16) (hco : co i (nI s) = true)  : zc G l yX7_getPlace cX7_getPlace 6 (some .int) 2 [.ref a, .int i, .ref c] (f, nn) 0 0 (fun o h' => o = some (.int 3) ∧ h' = (f, nn)) := by
  refine zc.of (by decide) (Nat.le_of_ble_eq_true rfl) ?_
  refine zv_aload_n dX7_getPlace_0 rfl ?_
  refine zv_iload_n dX7_getPlace_1 rfl ?_
  refine zv_callSq (mc := 0) (ms := 0) zm_X7_121 zkyX7_placeFault (cX_plFTo ha hb ha1 ha2 hb1 hb2 hs hco) rfl rfl (Nat.le_of_ble_eq_true rfl) (by decide) dX7_getPlace_2 ?_
  refine zv_istore_n dX7_getPlace_5 (by decide) ?_
  refine zv_iload_n dX7_getPlace_6 rfl ?_
  refine zv_if_eq (tgt := 12) dX7_getPlace_7 (by decide) (fun c => absurd c (by decide)) (fun _ => ?_)
  refine zv_iload_n dX7_getPlace_10 rfl ?_
  exact zv_ireturn dX7_getPlace_11 rfl ⟨rfl, rfl⟩
set_option maxRecDepth 20000 in
set_option maxHeartbeats 1000000 in
theorem cX_getNi {G : zh_G} {l : Launch} {f : Nat → va_E} {nn : Nat} {i : Int32} {c : Nat} {k0 a0 t0 : Value} (hc : f c = .inr (0, [k0, a0, t0])) (hc1 : zg_B G ≤ c) (hc2 : c < nn) {a b s : Nat} {K : Int32} {num : Nat → Int64} (ha : f a = .inr (1, [.int K, .int (nI s), .ref b])) (hb : f b = .inl (zg_c G 1, s, .inr (.inl num))) (ha1 : zg_B G ≤ a) (ha2 : a < nn) (hb1 : zg_B G ≤ b) (hb2 : b < nn) (hs : s ≤ 16) (hco : co i (nI s) = false)  : zc G l yX7_getPlace cX7_getPlace 6 (some .int) 2 [.ref a, .int i, .ref c] (f, nn) 0 0 (fun o h' => o = some (.int 0) ∧ h' = (va_up f c (.inr (0, [.int K, .long (s_as K (num i.toNatClampNeg)), .null])), nn)) := by
  refine zc.of (by decide) (Nat.le_of_ble_eq_true rfl) ?_
  refine zv_aload_n dX7_getPlace_0 rfl ?_
  refine zv_iload_n dX7_getPlace_1 rfl ?_
  refine zv_callSq (mc := 0) (ms := 0) zm_X7_121 zkyX7_placeFault (cX_plFNi ha hb ha1 ha2 hb1 hb2 hs hco) rfl rfl (Nat.le_of_ble_eq_true rfl) (by decide) dX7_getPlace_2 ?_
  refine zv_istore_n dX7_getPlace_5 (by decide) ?_
  refine zv_iload_n dX7_getPlace_6 rfl ?_
  refine zv_if_eq (tgt := 12) dX7_getPlace_7 (by decide) (fun _ => ?_) (fun c => absurd rfl c)
  refine zv_aload_n dX7_getPlace_12 rfl ?_
  refine zv_instY (ci := 1) (fs := [.int K, .int (nI s), .ref b]) ha ha1 ha2 rfl zk_X7_43 (by decide +kernel) dX7_getPlace_13 ?_
  refine zv_if_eq (tgt := 44) dX7_getPlace_16 (by decide) (fun c => absurd c (by decide)) (fun _ => ?_)
  refine zv_aload_n dX7_getPlace_19 rfl ?_
  refine zv_castY (ci := 1) (fs := [.int K, .int (nI s), .ref b]) ha ha1 ha2 rfl zk_X7_43 (by decide +kernel) dX7_getPlace_20 ?_
  refine zv_astore dX7_getPlace_23 (by decide) ?_
  refine zv_aload_n dX7_getPlace_25 rfl ?_
  refine zv_aload dX7_getPlace_26 rfl ?_
  refine zv_get (ci := 1) (fs := [.int K, .int (nI s), .ref b]) zf_X7_164_1 ha ha1 ha2 rfl dX7_getPlace_28 ?_
  refine zv_aload dX7_getPlace_31 rfl ?_
  refine zv_get (ci := 1) (fs := [.int K, .int (nI s), .ref b]) zf_X7_165_1 ha ha1 ha2 rfl dX7_getPlace_33 ?_
  refine zv_iload_n dX7_getPlace_36 rfl ?_
  refine zv_lald hb hb1 hb2 (co_in hs hco) dX7_getPlace_37 ?_
  refine zv_callVq (ci := 0) (fs := [k0, a0, t0]) (mc := 0) (ms := 0) zm_X7_55 zkyX0_holdNumber hc hc1 hc2 rfl rfl (cX_holdN hc hc1 hc2) rfl rfl (Nat.le_of_ble_eq_true rfl) (by decide) dX7_getPlace_38 ?_
  refine zv_goto (tgt := 68) dX7_getPlace_41 (by decide) ?_
  refine zv_iconstv (v := 0) dX7_getPlace_68 (by decide) ?_
  exact zv_ireturn dX7_getPlace_69 rfl ⟨rfl, rfl⟩
set_option maxRecDepth 20000 in
set_option maxHeartbeats 1000000 in
theorem cX_getTi0 {G : zh_G} {l : Launch} {f : Nat → va_E} {nn : Nat} {i : Int32} {c : Nat} {k0 a0 t0 : Value} (hc : f c = .inr (0, [k0, a0, t0])) (hc1 : zg_B G ≤ c) (hc2 : c < nn) {a b s : Nat} {K : Int32} {thg : Nat → Option Nat} (ha : f a = .inr (4, [.int K, .int (nI s), .ref b])) (hb : f b = .inl (zg_c G 3, s, .inr (.inr (.inr (.inr thg))))) (ha1 : zg_B G ≤ a) (ha2 : a < nn) (hb1 : zg_B G ≤ b) (hb2 : b < nn) (hs : s ≤ 16) (hco : co i (nI s) = false) (h2 : thg i.toNatClampNeg = none)  : zc G l yX7_getPlace cX7_getPlace 6 (some .int) 2 [.ref a, .int i, .ref c] (f, nn) 0 0 (fun o h' => o = some (.int 0) ∧ h' = (va_up f c (.inr (0, [.int (-9), .long 0, .null])), nn)) := by
  refine zc.of (by decide) (Nat.le_of_ble_eq_true rfl) ?_
  refine zv_aload_n dX7_getPlace_0 rfl ?_
  refine zv_iload_n dX7_getPlace_1 rfl ?_
  refine zv_callSq (mc := 0) (ms := 0) zm_X7_121 zkyX7_placeFault (cX_plFTi ha hb ha1 ha2 hb1 hb2 hs hco) rfl rfl (Nat.le_of_ble_eq_true rfl) (by decide) dX7_getPlace_2 ?_
  refine zv_istore_n dX7_getPlace_5 (by decide) ?_
  refine zv_iload_n dX7_getPlace_6 rfl ?_
  refine zv_if_eq (tgt := 12) dX7_getPlace_7 (by decide) (fun _ => ?_) (fun c => absurd rfl c)
  refine zv_aload_n dX7_getPlace_12 rfl ?_
  refine zv_instNo (ci := 4) (fs := [.int K, .int (nI s), .ref b]) ha ha1 ha2 rfl zk_X7_43 (by decide +kernel) dX7_getPlace_13 ?_
  refine zv_if_eq (tgt := 44) dX7_getPlace_16 (by decide) (fun _ => ?_) (fun c => absurd rfl c)
  refine zv_aload_n dX7_getPlace_44 rfl ?_
  refine zv_instY (ci := 4) (fs := [.int K, .int (nI s), .ref b]) ha ha1 ha2 rfl zk_X7_48 (by decide +kernel) dX7_getPlace_45 ?_
  refine zv_if_eq (tgt := 68) dX7_getPlace_48 (by decide) (fun c => absurd c (by decide)) (fun _ => ?_)
  refine zv_aload_n dX7_getPlace_51 rfl ?_
  refine zv_castY (ci := 4) (fs := [.int K, .int (nI s), .ref b]) ha ha1 ha2 rfl zk_X7_48 (by decide +kernel) dX7_getPlace_52 ?_
  refine zv_astore dX7_getPlace_55 (by decide) ?_
  refine zv_aload_n dX7_getPlace_57 rfl ?_
  refine zv_aload dX7_getPlace_58 rfl ?_
  refine zv_get (ci := 4) (fs := [.int K, .int (nI s), .ref b]) zf_X7_169_4 ha ha1 ha2 rfl dX7_getPlace_60 ?_
  refine zv_iload_n dX7_getPlace_63 rfl ?_
  refine zv_aald3 hb hb1 hb2 (co_in hs hco) dX7_getPlace_64 ?_
  rw [h2]
  refine zv_callVq (ci := 0) (fs := [k0, a0, t0]) (mc := 0) (ms := 0) zm_X7_68 zkyX0_holdThing hc hc1 hc2 rfl rfl (cX_holdT0 hc hc1 hc2) rfl rfl (Nat.le_of_ble_eq_true rfl) (by decide) dX7_getPlace_65 ?_
  refine zv_iconstv (v := 0) dX7_getPlace_68 (by decide) ?_
  exact zv_ireturn dX7_getPlace_69 rfl ⟨rfl, rfl⟩
set_option maxRecDepth 20000 in
set_option maxHeartbeats 1000000 in
theorem cX_getTiP {G : zh_G} {l : Launch} {f : Nat → va_E} {nn : Nat} {i : Int32} {c : Nat} {k0 a0 t0 : Value} (hc : f c = .inr (0, [k0, a0, t0])) (hc1 : zg_B G ≤ c) (hc2 : c < nn) {a b s : Nat} {K : Int32} {thg : Nat → Option Nat} (ha : f a = .inr (4, [.int K, .int (nI s), .ref b])) (hb : f b = .inl (zg_c G 3, s, .inr (.inr (.inr (.inr thg))))) (ha1 : zg_B G ≤ a) (ha2 : a < nn) (hb1 : zg_B G ≤ b) (hb2 : b < nn) (hs : s ≤ 16) (hco : co i (nI s) = false) {a2 : Nat} {p2 fn2 : Int32} (h2 : thg i.toNatClampNeg = some a2) (hx : f a2 = .inr (2, [.int p2, .int fn2])) (hx1 : zg_B G ≤ a2) (hx2 : a2 < nn) (hxc : ¬ a2 = c)  : zc G l yX7_getPlace cX7_getPlace 6 (some .int) 2 [.ref a, .int i, .ref c] (f, nn) 0 0 (fun o h' => o = some (.int 0) ∧ h' = (va_up f c (.inr (0, [.int (if fn2 = 0 then 8 else 9), .long p2.toInt64, .ref a2])), nn)) := by
  refine zc.of (by decide) (Nat.le_of_ble_eq_true rfl) ?_
  refine zv_aload_n dX7_getPlace_0 rfl ?_
  refine zv_iload_n dX7_getPlace_1 rfl ?_
  refine zv_callSq (mc := 0) (ms := 0) zm_X7_121 zkyX7_placeFault (cX_plFTi ha hb ha1 ha2 hb1 hb2 hs hco) rfl rfl (Nat.le_of_ble_eq_true rfl) (by decide) dX7_getPlace_2 ?_
  refine zv_istore_n dX7_getPlace_5 (by decide) ?_
  refine zv_iload_n dX7_getPlace_6 rfl ?_
  refine zv_if_eq (tgt := 12) dX7_getPlace_7 (by decide) (fun _ => ?_) (fun c => absurd rfl c)
  refine zv_aload_n dX7_getPlace_12 rfl ?_
  refine zv_instNo (ci := 4) (fs := [.int K, .int (nI s), .ref b]) ha ha1 ha2 rfl zk_X7_43 (by decide +kernel) dX7_getPlace_13 ?_
  refine zv_if_eq (tgt := 44) dX7_getPlace_16 (by decide) (fun _ => ?_) (fun c => absurd rfl c)
  refine zv_aload_n dX7_getPlace_44 rfl ?_
  refine zv_instY (ci := 4) (fs := [.int K, .int (nI s), .ref b]) ha ha1 ha2 rfl zk_X7_48 (by decide +kernel) dX7_getPlace_45 ?_
  refine zv_if_eq (tgt := 68) dX7_getPlace_48 (by decide) (fun c => absurd c (by decide)) (fun _ => ?_)
  refine zv_aload_n dX7_getPlace_51 rfl ?_
  refine zv_castY (ci := 4) (fs := [.int K, .int (nI s), .ref b]) ha ha1 ha2 rfl zk_X7_48 (by decide +kernel) dX7_getPlace_52 ?_
  refine zv_astore dX7_getPlace_55 (by decide) ?_
  refine zv_aload_n dX7_getPlace_57 rfl ?_
  refine zv_aload dX7_getPlace_58 rfl ?_
  refine zv_get (ci := 4) (fs := [.int K, .int (nI s), .ref b]) zf_X7_169_4 ha ha1 ha2 rfl dX7_getPlace_60 ?_
  refine zv_iload_n dX7_getPlace_63 rfl ?_
  refine zv_aald3 hb hb1 hb2 (co_in hs hco) dX7_getPlace_64 ?_
  rw [h2]
  refine zv_callVq (ci := 0) (fs := [k0, a0, t0]) (mc := 0) (ms := 0) zm_X7_68 zkyX0_holdThing hc hc1 hc2 rfl rfl (cX_holdTP hc hc1 hc2 hx hx1 hx2 hxc) rfl rfl (Nat.le_of_ble_eq_true rfl) (by decide) dX7_getPlace_65 ?_
  refine zv_iconstv (v := 0) dX7_getPlace_68 (by decide) ?_
  exact zv_ireturn dX7_getPlace_69 rfl ⟨rfl, rfl⟩
set_option maxRecDepth 20000 in
set_option maxHeartbeats 1000000 in
theorem cX_getTiN {G : zh_G} {l : Launch} {f : Nat → va_E} {nn : Nat} {i : Int32} {c : Nat} {k0 a0 t0 : Value} (hc : f c = .inr (0, [k0, a0, t0])) (hc1 : zg_B G ≤ c) (hc2 : c < nn) {a b s : Nat} {K : Int32} {thg : Nat → Option Nat} (ha : f a = .inr (4, [.int K, .int (nI s), .ref b])) (hb : f b = .inl (zg_c G 3, s, .inr (.inr (.inr (.inr thg))))) (ha1 : zg_B G ≤ a) (ha2 : a < nn) (hb1 : zg_B G ≤ b) (hb2 : b < nn) (hs : s ≤ 16) (hco : co i (nI s) = false) {a2 b2 : Nat} {K2 S2 : Int32} (h2 : thg i.toNatClampNeg = some a2) (hx : f a2 = .inr (1, [.int K2, .int S2, .ref b2])) (hx1 : zg_B G ≤ a2) (hx2 : a2 < nn) (hxc : ¬ a2 = c)  : zc G l yX7_getPlace cX7_getPlace 6 (some .int) 2 [.ref a, .int i, .ref c] (f, nn) 0 0 (fun o h' => o = some (.int 0) ∧ h' = (va_up f c (.inr (0, [.int 10, .long S2.toInt64, .ref a2])), nn)) := by
  refine zc.of (by decide) (Nat.le_of_ble_eq_true rfl) ?_
  refine zv_aload_n dX7_getPlace_0 rfl ?_
  refine zv_iload_n dX7_getPlace_1 rfl ?_
  refine zv_callSq (mc := 0) (ms := 0) zm_X7_121 zkyX7_placeFault (cX_plFTi ha hb ha1 ha2 hb1 hb2 hs hco) rfl rfl (Nat.le_of_ble_eq_true rfl) (by decide) dX7_getPlace_2 ?_
  refine zv_istore_n dX7_getPlace_5 (by decide) ?_
  refine zv_iload_n dX7_getPlace_6 rfl ?_
  refine zv_if_eq (tgt := 12) dX7_getPlace_7 (by decide) (fun _ => ?_) (fun c => absurd rfl c)
  refine zv_aload_n dX7_getPlace_12 rfl ?_
  refine zv_instNo (ci := 4) (fs := [.int K, .int (nI s), .ref b]) ha ha1 ha2 rfl zk_X7_43 (by decide +kernel) dX7_getPlace_13 ?_
  refine zv_if_eq (tgt := 44) dX7_getPlace_16 (by decide) (fun _ => ?_) (fun c => absurd rfl c)
  refine zv_aload_n dX7_getPlace_44 rfl ?_
  refine zv_instY (ci := 4) (fs := [.int K, .int (nI s), .ref b]) ha ha1 ha2 rfl zk_X7_48 (by decide +kernel) dX7_getPlace_45 ?_
  refine zv_if_eq (tgt := 68) dX7_getPlace_48 (by decide) (fun c => absurd c (by decide)) (fun _ => ?_)
  refine zv_aload_n dX7_getPlace_51 rfl ?_
  refine zv_castY (ci := 4) (fs := [.int K, .int (nI s), .ref b]) ha ha1 ha2 rfl zk_X7_48 (by decide +kernel) dX7_getPlace_52 ?_
  refine zv_astore dX7_getPlace_55 (by decide) ?_
  refine zv_aload_n dX7_getPlace_57 rfl ?_
  refine zv_aload dX7_getPlace_58 rfl ?_
  refine zv_get (ci := 4) (fs := [.int K, .int (nI s), .ref b]) zf_X7_169_4 ha ha1 ha2 rfl dX7_getPlace_60 ?_
  refine zv_iload_n dX7_getPlace_63 rfl ?_
  refine zv_aald3 hb hb1 hb2 (co_in hs hco) dX7_getPlace_64 ?_
  rw [h2]
  refine zv_callVq (ci := 0) (fs := [k0, a0, t0]) (mc := 0) (ms := 0) zm_X7_68 zkyX0_holdThing hc hc1 hc2 rfl rfl (cX_holdTR hc hc1 hc2 hx hx1 hx2 hxc) rfl rfl (Nat.le_of_ble_eq_true rfl) (by decide) dX7_getPlace_65 ?_
  refine zv_iconstv (v := 0) dX7_getPlace_68 (by decide) ?_
  exact zv_ireturn dX7_getPlace_69 rfl ⟨rfl, rfl⟩
set_option maxRecDepth 20000 in
set_option maxHeartbeats 1000000 in
theorem cX_rd0 {G : zh_G} {l : Launch} {f : Nat → va_E} {nn : Nat} {i as : Int32} {c : Nat} {k0 a0 t0 : Value} (hc : f c = .inr (0, [k0, a0, t0])) (hc1 : zg_B G ≤ c) (hc2 : c < nn)  : zc G l yX7_readPlace cX7_readPlace 5 (some .int) 2 [.null, .int i, .int as, .ref c] (f, nn) 0 0 (fun o h' => o = some (.int 1) ∧ h' = (f, nn)) := by
  refine zc.of (by decide) (Nat.le_of_ble_eq_true rfl) ?_
  refine zv_aload_nN dX7_readPlace_0 rfl ?_
  refine zv_ifnonnullN dX7_readPlace_1 ?_
  refine zv_iconstv (v := 1) dX7_readPlace_4 (by decide) ?_
  exact zv_ireturn dX7_readPlace_5 rfl ⟨rfl, rfl⟩
set_option maxRecDepth 20000 in
set_option maxHeartbeats 1000000 in
theorem cX_wr0 {G : zh_G} {l : Launch} {f : Nat → va_E} {nn : Nat} {i as : Int32} {v : Int64}  : zc G l yX7_writePlace cX7_writePlace 6 (some .int) 1 [.null, .int i, .int as, .long v] (f, nn) 0 0 (fun o h' => o = some (.int 1) ∧ h' = (f, nn)) := by
  refine zc.of (by decide) (Nat.le_of_ble_eq_true rfl) ?_
  refine zv_aload_nN dX7_writePlace_0 rfl ?_
  refine zv_ifnonnullN dX7_writePlace_1 ?_
  refine zv_iconstv (v := 1) dX7_writePlace_4 (by decide) ?_
  exact zv_ireturn dX7_writePlace_5 rfl ⟨rfl, rfl⟩
set_option maxRecDepth 20000 in
set_option maxHeartbeats 1000000 in
theorem cX_rdP {G : zh_G} {l : Launch} {f : Nat → va_E} {nn : Nat} {i as : Int32} {c : Nat} {k0 a0 t0 : Value} (hc : f c = .inr (0, [k0, a0, t0])) (hc1 : zg_B G ≤ c) (hc2 : c < nn) {a : Nat} {p fn : Int32} (ha : f a = .inr (2, [.int p, .int fn])) (ha1 : zg_B G ≤ a) (ha2 : a < nn)  : zc G l yX7_readPlace cX7_readPlace 5 (some .int) 2 [.ref a, .int i, .int as, .ref c] (f, nn) 0 0 (fun o h' => o = some (.int 2) ∧ h' = (f, nn)) := by
  refine zc.of (by decide) (Nat.le_of_ble_eq_true rfl) ?_
  refine zv_aload_n dX7_readPlace_0 rfl ?_
  refine zv_ifnonnull (tgt := 6) dX7_readPlace_1 (by decide) ?_
  refine zv_aload_n dX7_readPlace_6 rfl ?_
  refine zv_instNo (ci := 2) (fs := [.int p, .int fn]) ha ha1 ha2 rfl zk_X7_43 (by decide +kernel) dX7_readPlace_7 ?_
  refine zv_if_eq (tgt := 62) dX7_readPlace_10 (by decide) (fun _ => ?_) (fun c => absurd rfl c)
  refine zv_iconstv (v := 2) dX7_readPlace_62 (by decide) ?_
  exact zv_ireturn dX7_readPlace_63 rfl ⟨rfl, rfl⟩
set_option maxRecDepth 20000 in
set_option maxHeartbeats 1000000 in
theorem cX_wrP {G : zh_G} {l : Launch} {f : Nat → va_E} {nn : Nat} {i as : Int32} {v : Int64} {a : Nat} {p fn : Int32} (ha : f a = .inr (2, [.int p, .int fn])) (ha1 : zg_B G ≤ a) (ha2 : a < nn)  : zc G l yX7_writePlace cX7_writePlace 6 (some .int) 1 [.ref a, .int i, .int as, .long v] (f, nn) 0 0 (fun o h' => o = some (.int 2) ∧ h' = (f, nn)) := by
  refine zc.of (by decide) (Nat.le_of_ble_eq_true rfl) ?_
  refine zv_aload_n dX7_writePlace_0 rfl ?_
  refine zv_ifnonnull (tgt := 6) dX7_writePlace_1 (by decide) ?_
  refine zv_aload_n dX7_writePlace_6 rfl ?_
  refine zv_instNo (ci := 2) (fs := [.int p, .int fn]) ha ha1 ha2 rfl zk_X7_43 (by decide +kernel) dX7_writePlace_7 ?_
  refine zv_if_eq (tgt := 70) dX7_writePlace_10 (by decide) (fun _ => ?_) (fun c => absurd rfl c)
  refine zv_iconstv (v := 2) dX7_writePlace_70 (by decide) ?_
  exact zv_ireturn dX7_writePlace_71 rfl ⟨rfl, rfl⟩
set_option maxRecDepth 20000 in
set_option maxHeartbeats 1000000 in
theorem cX_rdT {G : zh_G} {l : Launch} {f : Nat → va_E} {nn : Nat} {i as : Int32} {c : Nat} {k0 a0 t0 : Value} (hc : f c = .inr (0, [k0, a0, t0])) (hc1 : zg_B G ≤ c) (hc2 : c < nn) {a b s : Nat} {K : Int32} {thg : Nat → Option Nat} (ha : f a = .inr (4, [.int K, .int (nI s), .ref b])) (hb : f b = .inl (zg_c G 3, s, .inr (.inr (.inr (.inr thg))))) (ha1 : zg_B G ≤ a) (ha2 : a < nn) (hb1 : zg_B G ≤ b) (hb2 : b < nn) (hs : s ≤ 16)  : zc G l yX7_readPlace cX7_readPlace 5 (some .int) 2 [.ref a, .int i, .int as, .ref c] (f, nn) 0 0 (fun o h' => o = some (.int 2) ∧ h' = (f, nn)) := by
  refine zc.of (by decide) (Nat.le_of_ble_eq_true rfl) ?_
  refine zv_aload_n dX7_readPlace_0 rfl ?_
  refine zv_ifnonnull (tgt := 6) dX7_readPlace_1 (by decide) ?_
  refine zv_aload_n dX7_readPlace_6 rfl ?_
  refine zv_instNo (ci := 4) (fs := [.int K, .int (nI s), .ref b]) ha ha1 ha2 rfl zk_X7_43 (by decide +kernel) dX7_readPlace_7 ?_
  refine zv_if_eq (tgt := 62) dX7_readPlace_10 (by decide) (fun _ => ?_) (fun c => absurd rfl c)
  refine zv_iconstv (v := 2) dX7_readPlace_62 (by decide) ?_
  exact zv_ireturn dX7_readPlace_63 rfl ⟨rfl, rfl⟩
set_option maxRecDepth 20000 in
set_option maxHeartbeats 1000000 in
theorem cX_wrT {G : zh_G} {l : Launch} {f : Nat → va_E} {nn : Nat} {i as : Int32} {v : Int64} {a b s : Nat} {K : Int32} {thg : Nat → Option Nat} (ha : f a = .inr (4, [.int K, .int (nI s), .ref b])) (hb : f b = .inl (zg_c G 3, s, .inr (.inr (.inr (.inr thg))))) (ha1 : zg_B G ≤ a) (ha2 : a < nn) (hb1 : zg_B G ≤ b) (hb2 : b < nn) (hs : s ≤ 16)  : zc G l yX7_writePlace cX7_writePlace 6 (some .int) 1 [.ref a, .int i, .int as, .long v] (f, nn) 0 0 (fun o h' => o = some (.int 2) ∧ h' = (f, nn)) := by
  refine zc.of (by decide) (Nat.le_of_ble_eq_true rfl) ?_
  refine zv_aload_n dX7_writePlace_0 rfl ?_
  refine zv_ifnonnull (tgt := 6) dX7_writePlace_1 (by decide) ?_
  refine zv_aload_n dX7_writePlace_6 rfl ?_
  refine zv_instNo (ci := 4) (fs := [.int K, .int (nI s), .ref b]) ha ha1 ha2 rfl zk_X7_43 (by decide +kernel) dX7_writePlace_7 ?_
  refine zv_if_eq (tgt := 70) dX7_writePlace_10 (by decide) (fun _ => ?_) (fun c => absurd rfl c)
  refine zv_iconstv (v := 2) dX7_writePlace_70 (by decide) ?_
  exact zv_ireturn dX7_writePlace_71 rfl ⟨rfl, rfl⟩
set_option maxRecDepth 20000 in
set_option maxHeartbeats 1000000 in
theorem cX_rdNo {G : zh_G} {l : Launch} {f : Nat → va_E} {nn : Nat} {i as : Int32} {c : Nat} {k0 a0 t0 : Value} (hc : f c = .inr (0, [k0, a0, t0])) (hc1 : zg_B G ≤ c) (hc2 : c < nn) {a b s : Nat} {K : Int32} {num : Nat → Int64} (ha : f a = .inr (1, [.int K, .int (nI s), .ref b])) (hb : f b = .inl (zg_c G 1, s, .inr (.inl num))) (ha1 : zg_B G ≤ a) (ha2 : a < nn) (hb1 : zg_B G ≤ b) (hb2 : b < nn) (hs : s ≤ 16) (hco : co i (nI s) = true)  : zc G l yX7_readPlace cX7_readPlace 5 (some .int) 2 [.ref a, .int i, .int as, .ref c] (f, nn) 0 0 (fun o h' => o = some (.int 3) ∧ h' = (f, nn)) := by
  refine zc.of (by decide) (Nat.le_of_ble_eq_true rfl) ?_
  refine zv_aload_n dX7_readPlace_0 rfl ?_
  refine zv_ifnonnull (tgt := 6) dX7_readPlace_1 (by decide) ?_
  refine zv_aload_n dX7_readPlace_6 rfl ?_
  refine zv_instY (ci := 1) (fs := [.int K, .int (nI s), .ref b]) ha ha1 ha2 rfl zk_X7_43 (by decide +kernel) dX7_readPlace_7 ?_
  refine zv_if_eq (tgt := 62) dX7_readPlace_10 (by decide) (fun c => absurd c (by decide)) (fun _ => ?_)
  refine zv_aload_n dX7_readPlace_13 rfl ?_
  refine zv_castY (ci := 1) (fs := [.int K, .int (nI s), .ref b]) ha ha1 ha2 rfl zk_X7_43 (by decide +kernel) dX7_readPlace_14 ?_
  refine zv_astore dX7_readPlace_17 (by decide) ?_
  refine zv_iload_n dX7_readPlace_19 rfl ?_
  refine zv_if_lt (tgt := 32) dX7_readPlace_20 (by decide) (fun c20 => ?_) (fun c20 => ?_)
  · skip
    refine zv_iconstv (v := 3) dX7_readPlace_32 (by decide) ?_
    exact zv_ireturn dX7_readPlace_33 rfl ⟨rfl, rfl⟩
  · skip
    refine zv_iload_n dX7_readPlace_23 rfl ?_
    refine zv_aload dX7_readPlace_24 rfl ?_
    refine zv_get (ci := 1) (fs := [.int K, .int (nI s), .ref b]) zf_X7_186_1 ha ha1 ha2 rfl dX7_readPlace_26 ?_
    refine zv_icmp_lt (tgt := 34) dX7_readPlace_29 (by decide) (fun c29 => ?_) (fun c29 => ?_)
    · exact absurd c29 ((co_t hco).resolve_left c20)
    · skip
      refine zv_iconstv (v := 3) dX7_readPlace_32 (by decide) ?_
      exact zv_ireturn dX7_readPlace_33 rfl ⟨rfl, rfl⟩
set_option maxRecDepth 20000 in
set_option maxHeartbeats 1000000 in
theorem cX_rdNb {G : zh_G} {l : Launch} {f : Nat → va_E} {nn : Nat} {i as : Int32} {c : Nat} {k0 a0 t0 : Value} (hc : f c = .inr (0, [k0, a0, t0])) (hc1 : zg_B G ≤ c) (hc2 : c < nn) {a b s : Nat} {K : Int32} {num : Nat → Int64} (ha : f a = .inr (1, [.int K, .int (nI s), .ref b])) (hb : f b = .inl (zg_c G 1, s, .inr (.inl num))) (ha1 : zg_B G ≤ a) (ha2 : a < nn) (hb1 : zg_B G ≤ b) (hb2 : b < nn) (hs : s ≤ 16) (hco : co i (nI s) = false) (hg : gi K as = false)  : zc G l yX7_readPlace cX7_readPlace 5 (some .int) 2 [.ref a, .int i, .int as, .ref c] (f, nn) 0 0 (fun o h' => o = some (.int 2) ∧ h' = (f, nn)) := by
  refine zc.of (by decide) (Nat.le_of_ble_eq_true rfl) ?_
  refine zv_aload_n dX7_readPlace_0 rfl ?_
  refine zv_ifnonnull (tgt := 6) dX7_readPlace_1 (by decide) ?_
  refine zv_aload_n dX7_readPlace_6 rfl ?_
  refine zv_instY (ci := 1) (fs := [.int K, .int (nI s), .ref b]) ha ha1 ha2 rfl zk_X7_43 (by decide +kernel) dX7_readPlace_7 ?_
  refine zv_if_eq (tgt := 62) dX7_readPlace_10 (by decide) (fun c => absurd c (by decide)) (fun _ => ?_)
  refine zv_aload_n dX7_readPlace_13 rfl ?_
  refine zv_castY (ci := 1) (fs := [.int K, .int (nI s), .ref b]) ha ha1 ha2 rfl zk_X7_43 (by decide +kernel) dX7_readPlace_14 ?_
  refine zv_astore dX7_readPlace_17 (by decide) ?_
  refine zv_iload_n dX7_readPlace_19 rfl ?_
  refine zv_if_lt (tgt := 32) dX7_readPlace_20 (by decide) (fun c20 => ?_) (fun c20 => ?_)
  · exact absurd c20 (co_f hco).1
  · skip
    refine zv_iload_n dX7_readPlace_23 rfl ?_
    refine zv_aload dX7_readPlace_24 rfl ?_
    refine zv_get (ci := 1) (fs := [.int K, .int (nI s), .ref b]) zf_X7_186_1 ha ha1 ha2 rfl dX7_readPlace_26 ?_
    refine zv_icmp_lt (tgt := 34) dX7_readPlace_29 (by decide) (fun c29 => ?_) (fun c29 => ?_)
    · skip
      refine zv_aload dX7_readPlace_34 rfl ?_
      refine zv_get (ci := 1) (fs := [.int K, .int (nI s), .ref b]) zf_X7_164_1 ha ha1 ha2 rfl dX7_readPlace_36 ?_
      refine zv_iload_n dX7_readPlace_39 rfl ?_
      refine zv_callSq (mc := 0) (ms := 0) zm_X7_182 zkyX7_goesInto cX_goes rfl rfl (Nat.le_of_ble_eq_true rfl) (by decide) dX7_readPlace_40 ?_
      refine zv_if_ne (tgt := 48) dX7_readPlace_43 (by decide) (fun c43 => ?_) (fun c43 => ?_)
      · exact absurd (zb_0.mpr hg) (by assumption)
      · skip
        refine zv_iconstv (v := 2) dX7_readPlace_46 (by decide) ?_
        exact zv_ireturn dX7_readPlace_47 rfl ⟨rfl, rfl⟩
    · exact absurd (co_f hco).2 c29
set_option maxRecDepth 20000 in
set_option maxHeartbeats 1000000 in
theorem cX_rdNy {G : zh_G} {l : Launch} {f : Nat → va_E} {nn : Nat} {i as : Int32} {c : Nat} {k0 a0 t0 : Value} (hc : f c = .inr (0, [k0, a0, t0])) (hc1 : zg_B G ≤ c) (hc2 : c < nn) {a b s : Nat} {K : Int32} {num : Nat → Int64} (ha : f a = .inr (1, [.int K, .int (nI s), .ref b])) (hb : f b = .inl (zg_c G 1, s, .inr (.inl num))) (ha1 : zg_B G ≤ a) (ha2 : a < nn) (hb1 : zg_B G ≤ b) (hb2 : b < nn) (hs : s ≤ 16) (hco : co i (nI s) = false) (hg : gi K as = true)  : zc G l yX7_readPlace cX7_readPlace 5 (some .int) 2 [.ref a, .int i, .int as, .ref c] (f, nn) 0 0 (fun o h' => o = some (.int 0) ∧ h' = (va_up f c (.inr (0, [.int as, .long (s_as as (num i.toNatClampNeg)), .null])), nn)) := by
  refine zc.of (by decide) (Nat.le_of_ble_eq_true rfl) ?_
  refine zv_aload_n dX7_readPlace_0 rfl ?_
  refine zv_ifnonnull (tgt := 6) dX7_readPlace_1 (by decide) ?_
  refine zv_aload_n dX7_readPlace_6 rfl ?_
  refine zv_instY (ci := 1) (fs := [.int K, .int (nI s), .ref b]) ha ha1 ha2 rfl zk_X7_43 (by decide +kernel) dX7_readPlace_7 ?_
  refine zv_if_eq (tgt := 62) dX7_readPlace_10 (by decide) (fun c => absurd c (by decide)) (fun _ => ?_)
  refine zv_aload_n dX7_readPlace_13 rfl ?_
  refine zv_castY (ci := 1) (fs := [.int K, .int (nI s), .ref b]) ha ha1 ha2 rfl zk_X7_43 (by decide +kernel) dX7_readPlace_14 ?_
  refine zv_astore dX7_readPlace_17 (by decide) ?_
  refine zv_iload_n dX7_readPlace_19 rfl ?_
  refine zv_if_lt (tgt := 32) dX7_readPlace_20 (by decide) (fun c20 => ?_) (fun c20 => ?_)
  · exact absurd c20 (co_f hco).1
  · skip
    refine zv_iload_n dX7_readPlace_23 rfl ?_
    refine zv_aload dX7_readPlace_24 rfl ?_
    refine zv_get (ci := 1) (fs := [.int K, .int (nI s), .ref b]) zf_X7_186_1 ha ha1 ha2 rfl dX7_readPlace_26 ?_
    refine zv_icmp_lt (tgt := 34) dX7_readPlace_29 (by decide) (fun c29 => ?_) (fun c29 => ?_)
    · skip
      refine zv_aload dX7_readPlace_34 rfl ?_
      refine zv_get (ci := 1) (fs := [.int K, .int (nI s), .ref b]) zf_X7_164_1 ha ha1 ha2 rfl dX7_readPlace_36 ?_
      refine zv_iload_n dX7_readPlace_39 rfl ?_
      refine zv_callSq (mc := 0) (ms := 0) zm_X7_182 zkyX7_goesInto cX_goes rfl rfl (Nat.le_of_ble_eq_true rfl) (by decide) dX7_readPlace_40 ?_
      refine zv_if_ne (tgt := 48) dX7_readPlace_43 (by decide) (fun c43 => ?_) (fun c43 => ?_)
      · skip
        refine zv_aload_n dX7_readPlace_48 rfl ?_
        refine zv_iload_n dX7_readPlace_49 rfl ?_
        refine zv_aload dX7_readPlace_50 rfl ?_
        refine zv_get (ci := 1) (fs := [.int K, .int (nI s), .ref b]) zf_X7_165_1 ha ha1 ha2 rfl dX7_readPlace_52 ?_
        refine zv_iload_n dX7_readPlace_55 rfl ?_
        refine zv_lald hb hb1 hb2 (co_in hs hco) dX7_readPlace_56 ?_
        refine zv_callVq (ci := 0) (fs := [k0, a0, t0]) (mc := 0) (ms := 0) zm_X7_55 zkyX0_holdNumber hc hc1 hc2 rfl rfl (cX_holdN hc hc1 hc2) rfl rfl (Nat.le_of_ble_eq_true rfl) (by decide) dX7_readPlace_57 ?_
        refine zv_iconstv (v := 0) dX7_readPlace_60 (by decide) ?_
        exact zv_ireturn dX7_readPlace_61 rfl ⟨rfl, rfl⟩
      · exact absurd (by assumption) (zb_n.mpr hg)
    · exact absurd (co_f hco).2 c29
set_option maxRecDepth 20000 in
set_option maxHeartbeats 1000000 in
theorem cX_wrNo {G : zh_G} {l : Launch} {f : Nat → va_E} {nn : Nat} {i as : Int32} {v : Int64} {a b s : Nat} {K : Int32} {num : Nat → Int64} (ha : f a = .inr (1, [.int K, .int (nI s), .ref b])) (hb : f b = .inl (zg_c G 1, s, .inr (.inl num))) (ha1 : zg_B G ≤ a) (ha2 : a < nn) (hb1 : zg_B G ≤ b) (hb2 : b < nn) (hs : s ≤ 16) (hco : co i (nI s) = true)  : zc G l yX7_writePlace cX7_writePlace 6 (some .int) 1 [.ref a, .int i, .int as, .long v] (f, nn) 0 0 (fun o h' => o = some (.int 3) ∧ h' = (f, nn)) := by
  refine zc.of (by decide) (Nat.le_of_ble_eq_true rfl) ?_
  refine zv_aload_n dX7_writePlace_0 rfl ?_
  refine zv_ifnonnull (tgt := 6) dX7_writePlace_1 (by decide) ?_
  refine zv_aload_n dX7_writePlace_6 rfl ?_
  refine zv_instY (ci := 1) (fs := [.int K, .int (nI s), .ref b]) ha ha1 ha2 rfl zk_X7_43 (by decide +kernel) dX7_writePlace_7 ?_
  refine zv_if_eq (tgt := 70) dX7_writePlace_10 (by decide) (fun c => absurd c (by decide)) (fun _ => ?_)
  refine zv_aload_n dX7_writePlace_13 rfl ?_
  refine zv_castY (ci := 1) (fs := [.int K, .int (nI s), .ref b]) ha ha1 ha2 rfl zk_X7_43 (by decide +kernel) dX7_writePlace_14 ?_
  refine zv_astore dX7_writePlace_17 (by decide) ?_
  refine zv_iload_n dX7_writePlace_19 rfl ?_
  refine zv_if_lt (tgt := 32) dX7_writePlace_20 (by decide) (fun c20 => ?_) (fun c20 => ?_)
  · skip
    refine zv_iconstv (v := 3) dX7_writePlace_32 (by decide) ?_
    exact zv_ireturn dX7_writePlace_33 rfl ⟨rfl, rfl⟩
  · skip
    refine zv_iload_n dX7_writePlace_23 rfl ?_
    refine zv_aload dX7_writePlace_24 rfl ?_
    refine zv_get (ci := 1) (fs := [.int K, .int (nI s), .ref b]) zf_X7_186_1 ha ha1 ha2 rfl dX7_writePlace_26 ?_
    refine zv_icmp_lt (tgt := 34) dX7_writePlace_29 (by decide) (fun c29 => ?_) (fun c29 => ?_)
    · exact absurd c29 ((co_t hco).resolve_left c20)
    · skip
      refine zv_iconstv (v := 3) dX7_writePlace_32 (by decide) ?_
      exact zv_ireturn dX7_writePlace_33 rfl ⟨rfl, rfl⟩
set_option maxRecDepth 20000 in
set_option maxHeartbeats 1000000 in
theorem cX_wrNb {G : zh_G} {l : Launch} {f : Nat → va_E} {nn : Nat} {i as : Int32} {v : Int64} {a b s : Nat} {K : Int32} {num : Nat → Int64} (ha : f a = .inr (1, [.int K, .int (nI s), .ref b])) (hb : f b = .inl (zg_c G 1, s, .inr (.inl num))) (ha1 : zg_B G ≤ a) (ha2 : a < nn) (hb1 : zg_B G ≤ b) (hb2 : b < nn) (hs : s ≤ 16) (hco : co i (nI s) = false) (hg : gi as K = false)  : zc G l yX7_writePlace cX7_writePlace 6 (some .int) 1 [.ref a, .int i, .int as, .long v] (f, nn) 0 0 (fun o h' => o = some (.int 2) ∧ h' = (f, nn)) := by
  refine zc.of (by decide) (Nat.le_of_ble_eq_true rfl) ?_
  refine zv_aload_n dX7_writePlace_0 rfl ?_
  refine zv_ifnonnull (tgt := 6) dX7_writePlace_1 (by decide) ?_
  refine zv_aload_n dX7_writePlace_6 rfl ?_
  refine zv_instY (ci := 1) (fs := [.int K, .int (nI s), .ref b]) ha ha1 ha2 rfl zk_X7_43 (by decide +kernel) dX7_writePlace_7 ?_
  refine zv_if_eq (tgt := 70) dX7_writePlace_10 (by decide) (fun c => absurd c (by decide)) (fun _ => ?_)
  refine zv_aload_n dX7_writePlace_13 rfl ?_
  refine zv_castY (ci := 1) (fs := [.int K, .int (nI s), .ref b]) ha ha1 ha2 rfl zk_X7_43 (by decide +kernel) dX7_writePlace_14 ?_
  refine zv_astore dX7_writePlace_17 (by decide) ?_
  refine zv_iload_n dX7_writePlace_19 rfl ?_
  refine zv_if_lt (tgt := 32) dX7_writePlace_20 (by decide) (fun c20 => ?_) (fun c20 => ?_)
  · exact absurd c20 (co_f hco).1
  · skip
    refine zv_iload_n dX7_writePlace_23 rfl ?_
    refine zv_aload dX7_writePlace_24 rfl ?_
    refine zv_get (ci := 1) (fs := [.int K, .int (nI s), .ref b]) zf_X7_186_1 ha ha1 ha2 rfl dX7_writePlace_26 ?_
    refine zv_icmp_lt (tgt := 34) dX7_writePlace_29 (by decide) (fun c29 => ?_) (fun c29 => ?_)
    · skip
      refine zv_iload_n dX7_writePlace_34 rfl ?_
      refine zv_aload dX7_writePlace_35 rfl ?_
      refine zv_get (ci := 1) (fs := [.int K, .int (nI s), .ref b]) zf_X7_164_1 ha ha1 ha2 rfl dX7_writePlace_37 ?_
      refine zv_callSq (mc := 0) (ms := 0) zm_X7_182 zkyX7_goesInto cX_goes rfl rfl (Nat.le_of_ble_eq_true rfl) (by decide) dX7_writePlace_40 ?_
      refine zv_if_ne (tgt := 48) dX7_writePlace_43 (by decide) (fun c43 => ?_) (fun c43 => ?_)
      · exact absurd (zb_0.mpr hg) (by assumption)
      · skip
        refine zv_iconstv (v := 2) dX7_writePlace_46 (by decide) ?_
        exact zv_ireturn dX7_writePlace_47 rfl ⟨rfl, rfl⟩
    · exact absurd (co_f hco).2 c29
set_option maxRecDepth 20000 in
set_option maxHeartbeats 1000000 in
theorem cX_wrNy {G : zh_G} {l : Launch} {f : Nat → va_E} {nn : Nat} {i as : Int32} {v : Int64} {a b s : Nat} {K : Int32} {num : Nat → Int64} (ha : f a = .inr (1, [.int K, .int (nI s), .ref b])) (hb : f b = .inl (zg_c G 1, s, .inr (.inl num))) (ha1 : zg_B G ≤ a) (ha2 : a < nn) (hb1 : zg_B G ≤ b) (hb2 : b < nn) (hs : s ≤ 16) (hco : co i (nI s) = false) (hg : gi as K = true)  : zc G l yX7_writePlace cX7_writePlace 6 (some .int) 1 [.ref a, .int i, .int as, .long v] (f, nn) 0 0 (fun o h' => o = some (.int 0) ∧ h' = (va_up f b (.inl (zg_c G 1, s, .inr (.inl (vp_updL num i.toNatClampNeg (s_as K (s_as as v)))))), nn)) := by
  refine zc.of (by decide) (Nat.le_of_ble_eq_true rfl) ?_
  refine zv_aload_n dX7_writePlace_0 rfl ?_
  refine zv_ifnonnull (tgt := 6) dX7_writePlace_1 (by decide) ?_
  refine zv_aload_n dX7_writePlace_6 rfl ?_
  refine zv_instY (ci := 1) (fs := [.int K, .int (nI s), .ref b]) ha ha1 ha2 rfl zk_X7_43 (by decide +kernel) dX7_writePlace_7 ?_
  refine zv_if_eq (tgt := 70) dX7_writePlace_10 (by decide) (fun c => absurd c (by decide)) (fun _ => ?_)
  refine zv_aload_n dX7_writePlace_13 rfl ?_
  refine zv_castY (ci := 1) (fs := [.int K, .int (nI s), .ref b]) ha ha1 ha2 rfl zk_X7_43 (by decide +kernel) dX7_writePlace_14 ?_
  refine zv_astore dX7_writePlace_17 (by decide) ?_
  refine zv_iload_n dX7_writePlace_19 rfl ?_
  refine zv_if_lt (tgt := 32) dX7_writePlace_20 (by decide) (fun c20 => ?_) (fun c20 => ?_)
  · exact absurd c20 (co_f hco).1
  · skip
    refine zv_iload_n dX7_writePlace_23 rfl ?_
    refine zv_aload dX7_writePlace_24 rfl ?_
    refine zv_get (ci := 1) (fs := [.int K, .int (nI s), .ref b]) zf_X7_186_1 ha ha1 ha2 rfl dX7_writePlace_26 ?_
    refine zv_icmp_lt (tgt := 34) dX7_writePlace_29 (by decide) (fun c29 => ?_) (fun c29 => ?_)
    · skip
      refine zv_iload_n dX7_writePlace_34 rfl ?_
      refine zv_aload dX7_writePlace_35 rfl ?_
      refine zv_get (ci := 1) (fs := [.int K, .int (nI s), .ref b]) zf_X7_164_1 ha ha1 ha2 rfl dX7_writePlace_37 ?_
      refine zv_callSq (mc := 0) (ms := 0) zm_X7_182 zkyX7_goesInto cX_goes rfl rfl (Nat.le_of_ble_eq_true rfl) (by decide) dX7_writePlace_40 ?_
      refine zv_if_ne (tgt := 48) dX7_writePlace_43 (by decide) (fun c43 => ?_) (fun c43 => ?_)
      · skip
        refine zv_aload dX7_writePlace_48 rfl ?_
        refine zv_get (ci := 1) (fs := [.int K, .int (nI s), .ref b]) zf_X7_165_1 ha ha1 ha2 rfl dX7_writePlace_50 ?_
        refine zv_iload_n dX7_writePlace_53 rfl ?_
        refine zv_aload dX7_writePlace_54 rfl ?_
        refine zv_get (ci := 1) (fs := [.int K, .int (nI s), .ref b]) zf_X7_164_1 ha ha1 ha2 rfl dX7_writePlace_56 ?_
        refine zv_iload_n dX7_writePlace_59 rfl ?_
        refine zv_lload_n dX7_writePlace_60 rfl ?_
        refine zv_callSq (mc := 0) (ms := 0) zm_X7_187 zkyX7_asKind cX_as rfl rfl (Nat.le_of_ble_eq_true rfl) (by decide) dX7_writePlace_61 ?_
        refine zv_callSq (mc := 0) (ms := 0) zm_X7_187 zkyX7_asKind cX_as rfl rfl (Nat.le_of_ble_eq_true rfl) (by decide) dX7_writePlace_64 ?_
        refine zv_last hb hb1 hb2 (co_in hs hco) dX7_writePlace_67 ?_
        refine zv_iconstv (v := 0) dX7_writePlace_68 (by decide) ?_
        exact zv_ireturn dX7_writePlace_69 rfl ⟨rfl, rfl⟩
      · exact absurd (by assumption) (zb_n.mpr hg)
    · exact absurd (co_f hco).2 c29
set_option maxRecDepth 20000 in
set_option maxHeartbeats 1000000 in
theorem cX_sNz {G : zh_G} {l : Launch} {f : Nat → va_E} {nn : Nat} {i : Int32} {c : Nat} {hk : Int32} {hv : Int64} {ht : Option Nat} (hc : f c = .inr (0, [.int hk, .long hv, va_rf ht])) (hc1 : zg_B G ≤ c) (hc2 : c < nn) {a b s : Nat} {K : Int32} {num : Nat → Int64} (ha : f a = .inr (1, [.int K, .int (nI s), .ref b])) (hb : f b = .inl (zg_c G 1, s, .inr (.inl num))) (ha1 : zg_B G ≤ a) (ha2 : a < nn) (hb1 : zg_B G ≤ b) (hb2 : b < nn) (hs : s ≤ 16) (hk9 : hk = -9)  : zc G l yX7_setNumber cX7_setNumber 3 (some .int) 2 [.ref a, .int i, .ref c] (f, nn) 0 0 (fun o h' => o = some (.int 2) ∧ h' = (f, nn)) := by
  refine zc.of (by decide) (Nat.le_of_ble_eq_true rfl) ?_
  refine zv_aload_n dX7_setNumber_0 rfl ?_
  refine zv_get (ci := 0) (fs := [.int hk, .long hv, va_rf ht]) zf_X7_76_0 hc hc1 hc2 rfl dX7_setNumber_1 ?_
  refine zv_bipushv (v := (-9)) dX7_setNumber_4 (by decide) ?_
  refine zv_icmp_ne (tgt := 11) dX7_setNumber_6 (by decide) (fun c6 => ?_) (fun c6 => ?_)
  · exact absurd hk9 c6
  · skip
    refine zv_iconstv (v := 2) dX7_setNumber_9 (by decide) ?_
    exact zv_ireturn dX7_setNumber_10 rfl ⟨rfl, rfl⟩
set_option maxRecDepth 20000 in
set_option maxHeartbeats 1000000 in
theorem cX_stNz {G : zh_G} {l : Launch} {f : Nat → va_E} {nn : Nat} {i : Int32} {c : Nat} {hk : Int32} {hv : Int64} {ht : Option Nat} (hc : f c = .inr (0, [.int hk, .long hv, va_rf ht])) (hc1 : zg_B G ≤ c) (hc2 : c < nn) {a b s : Nat} {K : Int32} {num : Nat → Int64} (ha : f a = .inr (1, [.int K, .int (nI s), .ref b])) (hb : f b = .inl (zg_c G 1, s, .inr (.inl num))) (ha1 : zg_B G ≤ a) (ha2 : a < nn) (hb1 : zg_B G ≤ b) (hb2 : b < nn) (hs : s ≤ 16) (hk9 : hk = -9)  : zc G l yX7_setPlace cX7_setPlace 4 (some .int) 3 [.ref a, .int i, .ref c] (f, nn) 0 0 (fun o h' => o = some (.int 2) ∧ h' = (f, nn)) := by
  refine zc.of (by decide) (Nat.le_of_ble_eq_true rfl) ?_
  refine zv_aload_n dX7_setPlace_0 rfl ?_
  refine zv_ifnonnull (tgt := 6) dX7_setPlace_1 (by decide) ?_
  refine zv_aload_n dX7_setPlace_6 rfl ?_
  refine zv_instY (ci := 1) (fs := [.int K, .int (nI s), .ref b]) ha ha1 ha2 rfl zk_X7_43 (by decide +kernel) dX7_setPlace_7 ?_
  refine zv_if_eq (tgt := 25) dX7_setPlace_10 (by decide) (fun c => absurd c (by decide)) (fun _ => ?_)
  refine zv_aload_n dX7_setPlace_13 rfl ?_
  refine zv_castY (ci := 1) (fs := [.int K, .int (nI s), .ref b]) ha ha1 ha2 rfl zk_X7_43 (by decide +kernel) dX7_setPlace_14 ?_
  refine zv_astore_n dX7_setPlace_17 (by decide) ?_
  refine zv_aload_n dX7_setPlace_18 rfl ?_
  refine zv_iload_n dX7_setPlace_19 rfl ?_
  refine zv_aload_n dX7_setPlace_20 rfl ?_
  refine zv_callSq (mc := 0) (ms := 0) zm_X7_172 zkyX7_setNumber (cX_sNz hc hc1 hc2 ha hb ha1 ha2 hb1 hb2 hs hk9) rfl rfl (Nat.le_of_ble_eq_true rfl) (by decide) dX7_setPlace_21 ?_
  exact zv_ireturn dX7_setPlace_24 rfl ⟨rfl, rfl⟩
set_option maxRecDepth 20000 in
set_option maxHeartbeats 1000000 in
theorem cX_sNo {G : zh_G} {l : Launch} {f : Nat → va_E} {nn : Nat} {i : Int32} {c : Nat} {hk : Int32} {hv : Int64} {ht : Option Nat} (hc : f c = .inr (0, [.int hk, .long hv, va_rf ht])) (hc1 : zg_B G ≤ c) (hc2 : c < nn) {a b s : Nat} {K : Int32} {num : Nat → Int64} (ha : f a = .inr (1, [.int K, .int (nI s), .ref b])) (hb : f b = .inl (zg_c G 1, s, .inr (.inl num))) (ha1 : zg_B G ≤ a) (ha2 : a < nn) (hb1 : zg_B G ≤ b) (hb2 : b < nn) (hs : s ≤ 16) (hk9 : ¬ hk = -9) (hco : co i (nI s) = true)  : zc G l yX7_setNumber cX7_setNumber 3 (some .int) 2 [.ref a, .int i, .ref c] (f, nn) 0 0 (fun o h' => o = some (.int 3) ∧ h' = (f, nn)) := by
  refine zc.of (by decide) (Nat.le_of_ble_eq_true rfl) ?_
  refine zv_aload_n dX7_setNumber_0 rfl ?_
  refine zv_get (ci := 0) (fs := [.int hk, .long hv, va_rf ht]) zf_X7_76_0 hc hc1 hc2 rfl dX7_setNumber_1 ?_
  refine zv_bipushv (v := (-9)) dX7_setNumber_4 (by decide) ?_
  refine zv_icmp_ne (tgt := 11) dX7_setNumber_6 (by decide) (fun c6 => ?_) (fun c6 => ?_)
  · skip
    refine zv_aload_n dX7_setNumber_11 rfl ?_
    refine zv_iload_n dX7_setNumber_12 rfl ?_
    refine zv_aload_n dX7_setNumber_13 rfl ?_
    refine zv_get (ci := 0) (fs := [.int hk, .long hv, va_rf ht]) zf_X7_76_0 hc hc1 hc2 rfl dX7_setNumber_14 ?_
    refine zv_aload_n dX7_setNumber_17 rfl ?_
    refine zv_get (ci := 0) (fs := [.int hk, .long hv, va_rf ht]) zf_X7_90_0 hc hc1 hc2 rfl dX7_setNumber_18 ?_
    refine zv_callSq (mc := 0) (ms := 0) zm_X7_94 zkyX7_writePlace (cX_wrNo ha hb ha1 ha2 hb1 hb2 hs hco) rfl rfl (Nat.le_of_ble_eq_true rfl) (by decide) dX7_setNumber_21 ?_
    exact zv_ireturn dX7_setNumber_24 rfl ⟨rfl, rfl⟩
  · exact absurd c6 hk9
set_option maxRecDepth 20000 in
set_option maxHeartbeats 1000000 in
theorem cX_stNo {G : zh_G} {l : Launch} {f : Nat → va_E} {nn : Nat} {i : Int32} {c : Nat} {hk : Int32} {hv : Int64} {ht : Option Nat} (hc : f c = .inr (0, [.int hk, .long hv, va_rf ht])) (hc1 : zg_B G ≤ c) (hc2 : c < nn) {a b s : Nat} {K : Int32} {num : Nat → Int64} (ha : f a = .inr (1, [.int K, .int (nI s), .ref b])) (hb : f b = .inl (zg_c G 1, s, .inr (.inl num))) (ha1 : zg_B G ≤ a) (ha2 : a < nn) (hb1 : zg_B G ≤ b) (hb2 : b < nn) (hs : s ≤ 16) (hk9 : ¬ hk = -9) (hco : co i (nI s) = true)  : zc G l yX7_setPlace cX7_setPlace 4 (some .int) 3 [.ref a, .int i, .ref c] (f, nn) 0 0 (fun o h' => o = some (.int 3) ∧ h' = (f, nn)) := by
  refine zc.of (by decide) (Nat.le_of_ble_eq_true rfl) ?_
  refine zv_aload_n dX7_setPlace_0 rfl ?_
  refine zv_ifnonnull (tgt := 6) dX7_setPlace_1 (by decide) ?_
  refine zv_aload_n dX7_setPlace_6 rfl ?_
  refine zv_instY (ci := 1) (fs := [.int K, .int (nI s), .ref b]) ha ha1 ha2 rfl zk_X7_43 (by decide +kernel) dX7_setPlace_7 ?_
  refine zv_if_eq (tgt := 25) dX7_setPlace_10 (by decide) (fun c => absurd c (by decide)) (fun _ => ?_)
  refine zv_aload_n dX7_setPlace_13 rfl ?_
  refine zv_castY (ci := 1) (fs := [.int K, .int (nI s), .ref b]) ha ha1 ha2 rfl zk_X7_43 (by decide +kernel) dX7_setPlace_14 ?_
  refine zv_astore_n dX7_setPlace_17 (by decide) ?_
  refine zv_aload_n dX7_setPlace_18 rfl ?_
  refine zv_iload_n dX7_setPlace_19 rfl ?_
  refine zv_aload_n dX7_setPlace_20 rfl ?_
  refine zv_callSq (mc := 0) (ms := 0) zm_X7_172 zkyX7_setNumber (cX_sNo hc hc1 hc2 ha hb ha1 ha2 hb1 hb2 hs hk9 hco) rfl rfl (Nat.le_of_ble_eq_true rfl) (by decide) dX7_setPlace_21 ?_
  exact zv_ireturn dX7_setPlace_24 rfl ⟨rfl, rfl⟩
set_option maxRecDepth 20000 in
set_option maxHeartbeats 1000000 in
theorem cX_sNb {G : zh_G} {l : Launch} {f : Nat → va_E} {nn : Nat} {i : Int32} {c : Nat} {hk : Int32} {hv : Int64} {ht : Option Nat} (hc : f c = .inr (0, [.int hk, .long hv, va_rf ht])) (hc1 : zg_B G ≤ c) (hc2 : c < nn) {a b s : Nat} {K : Int32} {num : Nat → Int64} (ha : f a = .inr (1, [.int K, .int (nI s), .ref b])) (hb : f b = .inl (zg_c G 1, s, .inr (.inl num))) (ha1 : zg_B G ≤ a) (ha2 : a < nn) (hb1 : zg_B G ≤ b) (hb2 : b < nn) (hs : s ≤ 16) (hk9 : ¬ hk = -9) (hco : co i (nI s) = false) (hg : gi hk K = false)  : zc G l yX7_setNumber cX7_setNumber 3 (some .int) 2 [.ref a, .int i, .ref c] (f, nn) 0 0 (fun o h' => o = some (.int 2) ∧ h' = (f, nn)) := by
  refine zc.of (by decide) (Nat.le_of_ble_eq_true rfl) ?_
  refine zv_aload_n dX7_setNumber_0 rfl ?_
  refine zv_get (ci := 0) (fs := [.int hk, .long hv, va_rf ht]) zf_X7_76_0 hc hc1 hc2 rfl dX7_setNumber_1 ?_
  refine zv_bipushv (v := (-9)) dX7_setNumber_4 (by decide) ?_
  refine zv_icmp_ne (tgt := 11) dX7_setNumber_6 (by decide) (fun c6 => ?_) (fun c6 => ?_)
  · skip
    refine zv_aload_n dX7_setNumber_11 rfl ?_
    refine zv_iload_n dX7_setNumber_12 rfl ?_
    refine zv_aload_n dX7_setNumber_13 rfl ?_
    refine zv_get (ci := 0) (fs := [.int hk, .long hv, va_rf ht]) zf_X7_76_0 hc hc1 hc2 rfl dX7_setNumber_14 ?_
    refine zv_aload_n dX7_setNumber_17 rfl ?_
    refine zv_get (ci := 0) (fs := [.int hk, .long hv, va_rf ht]) zf_X7_90_0 hc hc1 hc2 rfl dX7_setNumber_18 ?_
    refine zv_callSq (mc := 0) (ms := 0) zm_X7_94 zkyX7_writePlace (cX_wrNb ha hb ha1 ha2 hb1 hb2 hs hco hg) rfl rfl (Nat.le_of_ble_eq_true rfl) (by decide) dX7_setNumber_21 ?_
    exact zv_ireturn dX7_setNumber_24 rfl ⟨rfl, rfl⟩
  · exact absurd c6 hk9
set_option maxRecDepth 20000 in
set_option maxHeartbeats 1000000 in
theorem cX_stNb {G : zh_G} {l : Launch} {f : Nat → va_E} {nn : Nat} {i : Int32} {c : Nat} {hk : Int32} {hv : Int64} {ht : Option Nat} (hc : f c = .inr (0, [.int hk, .long hv, va_rf ht])) (hc1 : zg_B G ≤ c) (hc2 : c < nn) {a b s : Nat} {K : Int32} {num : Nat → Int64} (ha : f a = .inr (1, [.int K, .int (nI s), .ref b])) (hb : f b = .inl (zg_c G 1, s, .inr (.inl num))) (ha1 : zg_B G ≤ a) (ha2 : a < nn) (hb1 : zg_B G ≤ b) (hb2 : b < nn) (hs : s ≤ 16) (hk9 : ¬ hk = -9) (hco : co i (nI s) = false) (hg : gi hk K = false)  : zc G l yX7_setPlace cX7_setPlace 4 (some .int) 3 [.ref a, .int i, .ref c] (f, nn) 0 0 (fun o h' => o = some (.int 2) ∧ h' = (f, nn)) := by
  refine zc.of (by decide) (Nat.le_of_ble_eq_true rfl) ?_
  refine zv_aload_n dX7_setPlace_0 rfl ?_
  refine zv_ifnonnull (tgt := 6) dX7_setPlace_1 (by decide) ?_
  refine zv_aload_n dX7_setPlace_6 rfl ?_
  refine zv_instY (ci := 1) (fs := [.int K, .int (nI s), .ref b]) ha ha1 ha2 rfl zk_X7_43 (by decide +kernel) dX7_setPlace_7 ?_
  refine zv_if_eq (tgt := 25) dX7_setPlace_10 (by decide) (fun c => absurd c (by decide)) (fun _ => ?_)
  refine zv_aload_n dX7_setPlace_13 rfl ?_
  refine zv_castY (ci := 1) (fs := [.int K, .int (nI s), .ref b]) ha ha1 ha2 rfl zk_X7_43 (by decide +kernel) dX7_setPlace_14 ?_
  refine zv_astore_n dX7_setPlace_17 (by decide) ?_
  refine zv_aload_n dX7_setPlace_18 rfl ?_
  refine zv_iload_n dX7_setPlace_19 rfl ?_
  refine zv_aload_n dX7_setPlace_20 rfl ?_
  refine zv_callSq (mc := 0) (ms := 0) zm_X7_172 zkyX7_setNumber (cX_sNb hc hc1 hc2 ha hb ha1 ha2 hb1 hb2 hs hk9 hco hg) rfl rfl (Nat.le_of_ble_eq_true rfl) (by decide) dX7_setPlace_21 ?_
  exact zv_ireturn dX7_setPlace_24 rfl ⟨rfl, rfl⟩
set_option maxRecDepth 20000 in
set_option maxHeartbeats 1000000 in
theorem cX_sNy {G : zh_G} {l : Launch} {f : Nat → va_E} {nn : Nat} {i : Int32} {c : Nat} {hk : Int32} {hv : Int64} {ht : Option Nat} (hc : f c = .inr (0, [.int hk, .long hv, va_rf ht])) (hc1 : zg_B G ≤ c) (hc2 : c < nn) {a b s : Nat} {K : Int32} {num : Nat → Int64} (ha : f a = .inr (1, [.int K, .int (nI s), .ref b])) (hb : f b = .inl (zg_c G 1, s, .inr (.inl num))) (ha1 : zg_B G ≤ a) (ha2 : a < nn) (hb1 : zg_B G ≤ b) (hb2 : b < nn) (hs : s ≤ 16) (hk9 : ¬ hk = -9) (hco : co i (nI s) = false) (hg : gi hk K = true)  : zc G l yX7_setNumber cX7_setNumber 3 (some .int) 2 [.ref a, .int i, .ref c] (f, nn) 0 0 (fun o h' => o = some (.int 0) ∧ h' = (va_up f b (.inl (zg_c G 1, s, .inr (.inl (vp_updL num i.toNatClampNeg (s_as K (s_as hk hv)))))), nn)) := by
  refine zc.of (by decide) (Nat.le_of_ble_eq_true rfl) ?_
  refine zv_aload_n dX7_setNumber_0 rfl ?_
  refine zv_get (ci := 0) (fs := [.int hk, .long hv, va_rf ht]) zf_X7_76_0 hc hc1 hc2 rfl dX7_setNumber_1 ?_
  refine zv_bipushv (v := (-9)) dX7_setNumber_4 (by decide) ?_
  refine zv_icmp_ne (tgt := 11) dX7_setNumber_6 (by decide) (fun c6 => ?_) (fun c6 => ?_)
  · skip
    refine zv_aload_n dX7_setNumber_11 rfl ?_
    refine zv_iload_n dX7_setNumber_12 rfl ?_
    refine zv_aload_n dX7_setNumber_13 rfl ?_
    refine zv_get (ci := 0) (fs := [.int hk, .long hv, va_rf ht]) zf_X7_76_0 hc hc1 hc2 rfl dX7_setNumber_14 ?_
    refine zv_aload_n dX7_setNumber_17 rfl ?_
    refine zv_get (ci := 0) (fs := [.int hk, .long hv, va_rf ht]) zf_X7_90_0 hc hc1 hc2 rfl dX7_setNumber_18 ?_
    refine zv_callSq (mc := 0) (ms := 0) zm_X7_94 zkyX7_writePlace (cX_wrNy ha hb ha1 ha2 hb1 hb2 hs hco hg) rfl rfl (Nat.le_of_ble_eq_true rfl) (by decide) dX7_setNumber_21 ?_
    exact zv_ireturn dX7_setNumber_24 rfl ⟨rfl, rfl⟩
  · exact absurd c6 hk9
set_option maxRecDepth 20000 in
set_option maxHeartbeats 1000000 in
theorem cX_stNy {G : zh_G} {l : Launch} {f : Nat → va_E} {nn : Nat} {i : Int32} {c : Nat} {hk : Int32} {hv : Int64} {ht : Option Nat} (hc : f c = .inr (0, [.int hk, .long hv, va_rf ht])) (hc1 : zg_B G ≤ c) (hc2 : c < nn) {a b s : Nat} {K : Int32} {num : Nat → Int64} (ha : f a = .inr (1, [.int K, .int (nI s), .ref b])) (hb : f b = .inl (zg_c G 1, s, .inr (.inl num))) (ha1 : zg_B G ≤ a) (ha2 : a < nn) (hb1 : zg_B G ≤ b) (hb2 : b < nn) (hs : s ≤ 16) (hk9 : ¬ hk = -9) (hco : co i (nI s) = false) (hg : gi hk K = true)  : zc G l yX7_setPlace cX7_setPlace 4 (some .int) 3 [.ref a, .int i, .ref c] (f, nn) 0 0 (fun o h' => o = some (.int 0) ∧ h' = (va_up f b (.inl (zg_c G 1, s, .inr (.inl (vp_updL num i.toNatClampNeg (s_as K (s_as hk hv)))))), nn)) := by
  refine zc.of (by decide) (Nat.le_of_ble_eq_true rfl) ?_
  refine zv_aload_n dX7_setPlace_0 rfl ?_
  refine zv_ifnonnull (tgt := 6) dX7_setPlace_1 (by decide) ?_
  refine zv_aload_n dX7_setPlace_6 rfl ?_
  refine zv_instY (ci := 1) (fs := [.int K, .int (nI s), .ref b]) ha ha1 ha2 rfl zk_X7_43 (by decide +kernel) dX7_setPlace_7 ?_
  refine zv_if_eq (tgt := 25) dX7_setPlace_10 (by decide) (fun c => absurd c (by decide)) (fun _ => ?_)
  refine zv_aload_n dX7_setPlace_13 rfl ?_
  refine zv_castY (ci := 1) (fs := [.int K, .int (nI s), .ref b]) ha ha1 ha2 rfl zk_X7_43 (by decide +kernel) dX7_setPlace_14 ?_
  refine zv_astore_n dX7_setPlace_17 (by decide) ?_
  refine zv_aload_n dX7_setPlace_18 rfl ?_
  refine zv_iload_n dX7_setPlace_19 rfl ?_
  refine zv_aload_n dX7_setPlace_20 rfl ?_
  refine zv_callSq (mc := 0) (ms := 0) zm_X7_172 zkyX7_setNumber (cX_sNy hc hc1 hc2 ha hb ha1 ha2 hb1 hb2 hs hk9 hco hg) rfl rfl (Nat.le_of_ble_eq_true rfl) (by decide) dX7_setPlace_21 ?_
  exact zv_ireturn dX7_setPlace_24 rfl ⟨rfl, rfl⟩
set_option maxRecDepth 20000 in
set_option maxHeartbeats 1000000 in
theorem cX_sTo {G : zh_G} {l : Launch} {f : Nat → va_E} {nn : Nat} {i : Int32} {c : Nat} {hk : Int32} {hv : Int64} {ht : Option Nat} (hc : f c = .inr (0, [.int hk, .long hv, va_rf ht])) (hc1 : zg_B G ≤ c) (hc2 : c < nn) {a b s : Nat} {K : Int32} {thg : Nat → Option Nat} (ha : f a = .inr (4, [.int K, .int (nI s), .ref b])) (hb : f b = .inl (zg_c G 3, s, .inr (.inr (.inr (.inr thg))))) (ha1 : zg_B G ≤ a) (ha2 : a < nn) (hb1 : zg_B G ≤ b) (hb2 : b < nn) (hs : s ≤ 16) (hco : co i (nI s) = true)  : zc G l yX7_setThing cX7_setThing 3 (some .int) 1 [.ref a, .int i, .ref c] (f, nn) 0 0 (fun o h' => o = some (.int 3) ∧ h' = (f, nn)) := by
  refine zc.of (by decide) (Nat.le_of_ble_eq_true rfl) ?_
  refine zv_iload_n dX7_setThing_0 rfl ?_
  refine zv_if_lt (tgt := 12) dX7_setThing_1 (by decide) (fun c1 => ?_) (fun c1 => ?_)
  · skip
    refine zv_iconstv (v := 3) dX7_setThing_12 (by decide) ?_
    exact zv_ireturn dX7_setThing_13 rfl ⟨rfl, rfl⟩
  · skip
    refine zv_iload_n dX7_setThing_4 rfl ?_
    refine zv_aload_n dX7_setThing_5 rfl ?_
    refine zv_get (ci := 4) (fs := [.int K, .int (nI s), .ref b]) zf_X7_180_4 ha ha1 ha2 rfl dX7_setThing_6 ?_
    refine zv_icmp_lt (tgt := 14) dX7_setThing_9 (by decide) (fun c9 => ?_) (fun c9 => ?_)
    · exact absurd c9 ((co_t hco).resolve_left c1)
    · skip
      refine zv_iconstv (v := 3) dX7_setThing_12 (by decide) ?_
      exact zv_ireturn dX7_setThing_13 rfl ⟨rfl, rfl⟩
set_option maxRecDepth 20000 in
set_option maxHeartbeats 1000000 in
theorem cX_stTo {G : zh_G} {l : Launch} {f : Nat → va_E} {nn : Nat} {i : Int32} {c : Nat} {hk : Int32} {hv : Int64} {ht : Option Nat} (hc : f c = .inr (0, [.int hk, .long hv, va_rf ht])) (hc1 : zg_B G ≤ c) (hc2 : c < nn) {a b s : Nat} {K : Int32} {thg : Nat → Option Nat} (ha : f a = .inr (4, [.int K, .int (nI s), .ref b])) (hb : f b = .inl (zg_c G 3, s, .inr (.inr (.inr (.inr thg))))) (ha1 : zg_B G ≤ a) (ha2 : a < nn) (hb1 : zg_B G ≤ b) (hb2 : b < nn) (hs : s ≤ 16) (hco : co i (nI s) = true)  : zc G l yX7_setPlace cX7_setPlace 4 (some .int) 3 [.ref a, .int i, .ref c] (f, nn) 0 0 (fun o h' => o = some (.int 3) ∧ h' = (f, nn)) := by
  refine zc.of (by decide) (Nat.le_of_ble_eq_true rfl) ?_
  refine zv_aload_n dX7_setPlace_0 rfl ?_
  refine zv_ifnonnull (tgt := 6) dX7_setPlace_1 (by decide) ?_
  refine zv_aload_n dX7_setPlace_6 rfl ?_
  refine zv_instNo (ci := 4) (fs := [.int K, .int (nI s), .ref b]) ha ha1 ha2 rfl zk_X7_43 (by decide +kernel) dX7_setPlace_7 ?_
  refine zv_if_eq (tgt := 25) dX7_setPlace_10 (by decide) (fun _ => ?_) (fun c => absurd rfl c)
  refine zv_aload_n dX7_setPlace_25 rfl ?_
  refine zv_instY (ci := 4) (fs := [.int K, .int (nI s), .ref b]) ha ha1 ha2 rfl zk_X7_48 (by decide +kernel) dX7_setPlace_26 ?_
  refine zv_if_eq (tgt := 44) dX7_setPlace_29 (by decide) (fun c => absurd c (by decide)) (fun _ => ?_)
  refine zv_aload_n dX7_setPlace_32 rfl ?_
  refine zv_castY (ci := 4) (fs := [.int K, .int (nI s), .ref b]) ha ha1 ha2 rfl zk_X7_48 (by decide +kernel) dX7_setPlace_33 ?_
  refine zv_astore_n dX7_setPlace_36 (by decide) ?_
  refine zv_aload_n dX7_setPlace_37 rfl ?_
  refine zv_iload_n dX7_setPlace_38 rfl ?_
  refine zv_aload_n dX7_setPlace_39 rfl ?_
  refine zv_callSq (mc := 0) (ms := 0) zm_X7_176 zkyX7_setThing (cX_sTo hc hc1 hc2 ha hb ha1 ha2 hb1 hb2 hs hco) rfl rfl (Nat.le_of_ble_eq_true rfl) (by decide) dX7_setPlace_40 ?_
  exact zv_ireturn dX7_setPlace_43 rfl ⟨rfl, rfl⟩
set_option maxRecDepth 20000 in
set_option maxHeartbeats 1000000 in
theorem cX_sTb {G : zh_G} {l : Launch} {f : Nat → va_E} {nn : Nat} {i : Int32} {c : Nat} {hk : Int32} {hv : Int64} {ht : Option Nat} (hc : f c = .inr (0, [.int hk, .long hv, va_rf ht])) (hc1 : zg_B G ≤ c) (hc2 : c < nn) {a b s : Nat} {K : Int32} {thg : Nat → Option Nat} (ha : f a = .inr (4, [.int K, .int (nI s), .ref b])) (hb : f b = .inl (zg_c G 3, s, .inr (.inr (.inr (.inr thg))))) (ha1 : zg_B G ≤ a) (ha2 : a < nn) (hb1 : zg_B G ≤ b) (hb2 : b < nn) (hs : s ≤ 16) (hco : co i (nI s) = false) (hk9 : ¬ hk = -9) (hg : gi hk K = false)  : zc G l yX7_setThing cX7_setThing 3 (some .int) 1 [.ref a, .int i, .ref c] (f, nn) 0 0 (fun o h' => o = some (.int 2) ∧ h' = (f, nn)) := by
  refine zc.of (by decide) (Nat.le_of_ble_eq_true rfl) ?_
  refine zv_iload_n dX7_setThing_0 rfl ?_
  refine zv_if_lt (tgt := 12) dX7_setThing_1 (by decide) (fun c1 => ?_) (fun c1 => ?_)
  · exact absurd c1 (co_f hco).1
  · skip
    refine zv_iload_n dX7_setThing_4 rfl ?_
    refine zv_aload_n dX7_setThing_5 rfl ?_
    refine zv_get (ci := 4) (fs := [.int K, .int (nI s), .ref b]) zf_X7_180_4 ha ha1 ha2 rfl dX7_setThing_6 ?_
    refine zv_icmp_lt (tgt := 14) dX7_setThing_9 (by decide) (fun c9 => ?_) (fun c9 => ?_)
    · skip
      refine zv_aload_n dX7_setThing_14 rfl ?_
      refine zv_get (ci := 0) (fs := [.int hk, .long hv, va_rf ht]) zf_X7_76_0 hc hc1 hc2 rfl dX7_setThing_15 ?_
      refine zv_bipushv (v := (-9)) dX7_setThing_18 (by decide) ?_
      refine zv_icmp_eq (tgt := 39) dX7_setThing_20 (by decide) (fun c20 => ?_) (fun c20 => ?_)
      · exact absurd c20 hk9
      · skip
        refine zv_aload_n dX7_setThing_23 rfl ?_
        refine zv_get (ci := 0) (fs := [.int hk, .long hv, va_rf ht]) zf_X7_76_0 hc hc1 hc2 rfl dX7_setThing_24 ?_
        refine zv_aload_n dX7_setThing_27 rfl ?_
        refine zv_get (ci := 4) (fs := [.int K, .int (nI s), .ref b]) zf_X7_181_4 ha ha1 ha2 rfl dX7_setThing_28 ?_
        refine zv_callSq (mc := 0) (ms := 0) zm_X7_182 zkyX7_goesInto cX_goes rfl rfl (Nat.le_of_ble_eq_true rfl) (by decide) dX7_setThing_31 ?_
        refine zv_if_ne (tgt := 39) dX7_setThing_34 (by decide) (fun c34 => ?_) (fun c34 => ?_)
        · exact absurd (zb_0.mpr hg) (by assumption)
        · skip
          refine zv_iconstv (v := 2) dX7_setThing_37 (by decide) ?_
          exact zv_ireturn dX7_setThing_38 rfl ⟨rfl, rfl⟩
    · exact absurd (co_f hco).2 c9
set_option maxRecDepth 20000 in
set_option maxHeartbeats 1000000 in
theorem cX_stTb {G : zh_G} {l : Launch} {f : Nat → va_E} {nn : Nat} {i : Int32} {c : Nat} {hk : Int32} {hv : Int64} {ht : Option Nat} (hc : f c = .inr (0, [.int hk, .long hv, va_rf ht])) (hc1 : zg_B G ≤ c) (hc2 : c < nn) {a b s : Nat} {K : Int32} {thg : Nat → Option Nat} (ha : f a = .inr (4, [.int K, .int (nI s), .ref b])) (hb : f b = .inl (zg_c G 3, s, .inr (.inr (.inr (.inr thg))))) (ha1 : zg_B G ≤ a) (ha2 : a < nn) (hb1 : zg_B G ≤ b) (hb2 : b < nn) (hs : s ≤ 16) (hco : co i (nI s) = false) (hk9 : ¬ hk = -9) (hg : gi hk K = false)  : zc G l yX7_setPlace cX7_setPlace 4 (some .int) 3 [.ref a, .int i, .ref c] (f, nn) 0 0 (fun o h' => o = some (.int 2) ∧ h' = (f, nn)) := by
  refine zc.of (by decide) (Nat.le_of_ble_eq_true rfl) ?_
  refine zv_aload_n dX7_setPlace_0 rfl ?_
  refine zv_ifnonnull (tgt := 6) dX7_setPlace_1 (by decide) ?_
  refine zv_aload_n dX7_setPlace_6 rfl ?_
  refine zv_instNo (ci := 4) (fs := [.int K, .int (nI s), .ref b]) ha ha1 ha2 rfl zk_X7_43 (by decide +kernel) dX7_setPlace_7 ?_
  refine zv_if_eq (tgt := 25) dX7_setPlace_10 (by decide) (fun _ => ?_) (fun c => absurd rfl c)
  refine zv_aload_n dX7_setPlace_25 rfl ?_
  refine zv_instY (ci := 4) (fs := [.int K, .int (nI s), .ref b]) ha ha1 ha2 rfl zk_X7_48 (by decide +kernel) dX7_setPlace_26 ?_
  refine zv_if_eq (tgt := 44) dX7_setPlace_29 (by decide) (fun c => absurd c (by decide)) (fun _ => ?_)
  refine zv_aload_n dX7_setPlace_32 rfl ?_
  refine zv_castY (ci := 4) (fs := [.int K, .int (nI s), .ref b]) ha ha1 ha2 rfl zk_X7_48 (by decide +kernel) dX7_setPlace_33 ?_
  refine zv_astore_n dX7_setPlace_36 (by decide) ?_
  refine zv_aload_n dX7_setPlace_37 rfl ?_
  refine zv_iload_n dX7_setPlace_38 rfl ?_
  refine zv_aload_n dX7_setPlace_39 rfl ?_
  refine zv_callSq (mc := 0) (ms := 0) zm_X7_176 zkyX7_setThing (cX_sTb hc hc1 hc2 ha hb ha1 ha2 hb1 hb2 hs hco hk9 hg) rfl rfl (Nat.le_of_ble_eq_true rfl) (by decide) dX7_setPlace_40 ?_
  exact zv_ireturn dX7_setPlace_43 rfl ⟨rfl, rfl⟩
set_option maxRecDepth 20000 in
set_option maxHeartbeats 1000000 in
theorem cX_sTz {G : zh_G} {l : Launch} {f : Nat → va_E} {nn : Nat} {i : Int32} {c : Nat} {hk : Int32} {hv : Int64} {ht : Option Nat} (hc : f c = .inr (0, [.int hk, .long hv, va_rf ht])) (hc1 : zg_B G ≤ c) (hc2 : c < nn) {a b s : Nat} {K : Int32} {thg : Nat → Option Nat} (ha : f a = .inr (4, [.int K, .int (nI s), .ref b])) (hb : f b = .inl (zg_c G 3, s, .inr (.inr (.inr (.inr thg))))) (ha1 : zg_B G ≤ a) (ha2 : a < nn) (hb1 : zg_B G ≤ b) (hb2 : b < nn) (hs : s ≤ 16) (hco : co i (nI s) = false) (hk9 : hk = -9) (h2 : ht = none)  : zc G l yX7_setThing cX7_setThing 3 (some .int) 1 [.ref a, .int i, .ref c] (f, nn) 0 0 (fun o h' => o = some (.int 0) ∧ h' = (va_up f b (.inl (zg_c G 3, s, .inr (.inr (.inr (.inr (va_up thg i.toNatClampNeg none)))))), nn)) := by
  refine zc.of (by decide) (Nat.le_of_ble_eq_true rfl) ?_
  refine zv_iload_n dX7_setThing_0 rfl ?_
  refine zv_if_lt (tgt := 12) dX7_setThing_1 (by decide) (fun c1 => ?_) (fun c1 => ?_)
  · exact absurd c1 (co_f hco).1
  · skip
    refine zv_iload_n dX7_setThing_4 rfl ?_
    refine zv_aload_n dX7_setThing_5 rfl ?_
    refine zv_get (ci := 4) (fs := [.int K, .int (nI s), .ref b]) zf_X7_180_4 ha ha1 ha2 rfl dX7_setThing_6 ?_
    refine zv_icmp_lt (tgt := 14) dX7_setThing_9 (by decide) (fun c9 => ?_) (fun c9 => ?_)
    · skip
      refine zv_aload_n dX7_setThing_14 rfl ?_
      refine zv_get (ci := 0) (fs := [.int hk, .long hv, va_rf ht]) zf_X7_76_0 hc hc1 hc2 rfl dX7_setThing_15 ?_
      refine zv_bipushv (v := (-9)) dX7_setThing_18 (by decide) ?_
      refine zv_icmp_eq (tgt := 39) dX7_setThing_20 (by decide) (fun c20 => ?_) (fun c20 => ?_)
      · skip
        refine zv_aload_n dX7_setThing_39 rfl ?_
        refine zv_get (ci := 4) (fs := [.int K, .int (nI s), .ref b]) zf_X7_169_4 ha ha1 ha2 rfl dX7_setThing_40 ?_
        refine zv_iload_n dX7_setThing_43 rfl ?_
        refine zv_aload_n dX7_setThing_44 rfl ?_
        refine zv_get (ci := 0) (fs := [.int hk, .long hv, va_rf ht]) zf_X7_51_0 hc hc1 hc2 rfl dX7_setThing_45 ?_
        rw [h2]
        refine zv_aast3N hb hb1 hb2 (co_in hs hco) dX7_setThing_48 ?_
        refine zv_iconstv (v := 0) dX7_setThing_49 (by decide) ?_
        exact zv_ireturn dX7_setThing_50 rfl ⟨rfl, rfl⟩
      · exact absurd hk9 c20
    · exact absurd (co_f hco).2 c9
set_option maxRecDepth 20000 in
set_option maxHeartbeats 1000000 in
theorem cX_stTz {G : zh_G} {l : Launch} {f : Nat → va_E} {nn : Nat} {i : Int32} {c : Nat} {hk : Int32} {hv : Int64} {ht : Option Nat} (hc : f c = .inr (0, [.int hk, .long hv, va_rf ht])) (hc1 : zg_B G ≤ c) (hc2 : c < nn) {a b s : Nat} {K : Int32} {thg : Nat → Option Nat} (ha : f a = .inr (4, [.int K, .int (nI s), .ref b])) (hb : f b = .inl (zg_c G 3, s, .inr (.inr (.inr (.inr thg))))) (ha1 : zg_B G ≤ a) (ha2 : a < nn) (hb1 : zg_B G ≤ b) (hb2 : b < nn) (hs : s ≤ 16) (hco : co i (nI s) = false) (hk9 : hk = -9) (h2 : ht = none)  : zc G l yX7_setPlace cX7_setPlace 4 (some .int) 3 [.ref a, .int i, .ref c] (f, nn) 0 0 (fun o h' => o = some (.int 0) ∧ h' = (va_up f b (.inl (zg_c G 3, s, .inr (.inr (.inr (.inr (va_up thg i.toNatClampNeg none)))))), nn)) := by
  refine zc.of (by decide) (Nat.le_of_ble_eq_true rfl) ?_
  refine zv_aload_n dX7_setPlace_0 rfl ?_
  refine zv_ifnonnull (tgt := 6) dX7_setPlace_1 (by decide) ?_
  refine zv_aload_n dX7_setPlace_6 rfl ?_
  refine zv_instNo (ci := 4) (fs := [.int K, .int (nI s), .ref b]) ha ha1 ha2 rfl zk_X7_43 (by decide +kernel) dX7_setPlace_7 ?_
  refine zv_if_eq (tgt := 25) dX7_setPlace_10 (by decide) (fun _ => ?_) (fun c => absurd rfl c)
  refine zv_aload_n dX7_setPlace_25 rfl ?_
  refine zv_instY (ci := 4) (fs := [.int K, .int (nI s), .ref b]) ha ha1 ha2 rfl zk_X7_48 (by decide +kernel) dX7_setPlace_26 ?_
  refine zv_if_eq (tgt := 44) dX7_setPlace_29 (by decide) (fun c => absurd c (by decide)) (fun _ => ?_)
  refine zv_aload_n dX7_setPlace_32 rfl ?_
  refine zv_castY (ci := 4) (fs := [.int K, .int (nI s), .ref b]) ha ha1 ha2 rfl zk_X7_48 (by decide +kernel) dX7_setPlace_33 ?_
  refine zv_astore_n dX7_setPlace_36 (by decide) ?_
  refine zv_aload_n dX7_setPlace_37 rfl ?_
  refine zv_iload_n dX7_setPlace_38 rfl ?_
  refine zv_aload_n dX7_setPlace_39 rfl ?_
  refine zv_callSq (mc := 0) (ms := 0) zm_X7_176 zkyX7_setThing (cX_sTz hc hc1 hc2 ha hb ha1 ha2 hb1 hb2 hs hco hk9 h2) rfl rfl (Nat.le_of_ble_eq_true rfl) (by decide) dX7_setPlace_40 ?_
  exact zv_ireturn dX7_setPlace_43 rfl ⟨rfl, rfl⟩
set_option maxRecDepth 20000 in
set_option maxHeartbeats 1000000 in
theorem cX_sTP {G : zh_G} {l : Launch} {f : Nat → va_E} {nn : Nat} {i : Int32} {c : Nat} {hk : Int32} {hv : Int64} {ht : Option Nat} (hc : f c = .inr (0, [.int hk, .long hv, va_rf ht])) (hc1 : zg_B G ≤ c) (hc2 : c < nn) {a b s : Nat} {K : Int32} {thg : Nat → Option Nat} (ha : f a = .inr (4, [.int K, .int (nI s), .ref b])) (hb : f b = .inl (zg_c G 3, s, .inr (.inr (.inr (.inr thg))))) (ha1 : zg_B G ≤ a) (ha2 : a < nn) (hb1 : zg_B G ≤ b) (hb2 : b < nn) (hs : s ≤ 16) (hco : co i (nI s) = false) (hk9 : ¬ hk = -9) (hg : gi hk K = true) {p2 fn2 : Int32} {a2 : Nat} (h2 : ht = some a2) (hx : f a2 = .inr (2, [.int p2, .int fn2])) (hx1 : zg_B G ≤ a2) (hx2 : a2 < nn)  : zc G l yX7_setThing cX7_setThing 3 (some .int) 1 [.ref a, .int i, .ref c] (f, nn) 0 0 (fun o h' => o = some (.int 0) ∧ h' = (va_up f b (.inl (zg_c G 3, s, .inr (.inr (.inr (.inr (va_up thg i.toNatClampNeg (some a2))))))), nn)) := by
  refine zc.of (by decide) (Nat.le_of_ble_eq_true rfl) ?_
  refine zv_iload_n dX7_setThing_0 rfl ?_
  refine zv_if_lt (tgt := 12) dX7_setThing_1 (by decide) (fun c1 => ?_) (fun c1 => ?_)
  · exact absurd c1 (co_f hco).1
  · skip
    refine zv_iload_n dX7_setThing_4 rfl ?_
    refine zv_aload_n dX7_setThing_5 rfl ?_
    refine zv_get (ci := 4) (fs := [.int K, .int (nI s), .ref b]) zf_X7_180_4 ha ha1 ha2 rfl dX7_setThing_6 ?_
    refine zv_icmp_lt (tgt := 14) dX7_setThing_9 (by decide) (fun c9 => ?_) (fun c9 => ?_)
    · skip
      refine zv_aload_n dX7_setThing_14 rfl ?_
      refine zv_get (ci := 0) (fs := [.int hk, .long hv, va_rf ht]) zf_X7_76_0 hc hc1 hc2 rfl dX7_setThing_15 ?_
      refine zv_bipushv (v := (-9)) dX7_setThing_18 (by decide) ?_
      refine zv_icmp_eq (tgt := 39) dX7_setThing_20 (by decide) (fun c20 => ?_) (fun c20 => ?_)
      · exact absurd c20 hk9
      · skip
        refine zv_aload_n dX7_setThing_23 rfl ?_
        refine zv_get (ci := 0) (fs := [.int hk, .long hv, va_rf ht]) zf_X7_76_0 hc hc1 hc2 rfl dX7_setThing_24 ?_
        refine zv_aload_n dX7_setThing_27 rfl ?_
        refine zv_get (ci := 4) (fs := [.int K, .int (nI s), .ref b]) zf_X7_181_4 ha ha1 ha2 rfl dX7_setThing_28 ?_
        refine zv_callSq (mc := 0) (ms := 0) zm_X7_182 zkyX7_goesInto cX_goes rfl rfl (Nat.le_of_ble_eq_true rfl) (by decide) dX7_setThing_31 ?_
        refine zv_if_ne (tgt := 39) dX7_setThing_34 (by decide) (fun c34 => ?_) (fun c34 => ?_)
        · skip
          refine zv_aload_n dX7_setThing_39 rfl ?_
          refine zv_get (ci := 4) (fs := [.int K, .int (nI s), .ref b]) zf_X7_169_4 ha ha1 ha2 rfl dX7_setThing_40 ?_
          refine zv_iload_n dX7_setThing_43 rfl ?_
          refine zv_aload_n dX7_setThing_44 rfl ?_
          refine zv_get (ci := 0) (fs := [.int hk, .long hv, va_rf ht]) zf_X7_51_0 hc hc1 hc2 rfl dX7_setThing_45 ?_
          rw [h2]
          refine zv_aast3 (ci := 2) (vs := [.int p2, .int fn2]) hb hb1 hb2 (co_in hs hco) hx hx1 hx2 rfl (Or.inl (by decide +kernel)) dX7_setThing_48 ?_
          refine zv_iconstv (v := 0) dX7_setThing_49 (by decide) ?_
          exact zv_ireturn dX7_setThing_50 rfl ⟨rfl, rfl⟩
        · exact absurd (by assumption) (zb_n.mpr hg)
    · exact absurd (co_f hco).2 c9
set_option maxRecDepth 20000 in
set_option maxHeartbeats 1000000 in
theorem cX_stTP {G : zh_G} {l : Launch} {f : Nat → va_E} {nn : Nat} {i : Int32} {c : Nat} {hk : Int32} {hv : Int64} {ht : Option Nat} (hc : f c = .inr (0, [.int hk, .long hv, va_rf ht])) (hc1 : zg_B G ≤ c) (hc2 : c < nn) {a b s : Nat} {K : Int32} {thg : Nat → Option Nat} (ha : f a = .inr (4, [.int K, .int (nI s), .ref b])) (hb : f b = .inl (zg_c G 3, s, .inr (.inr (.inr (.inr thg))))) (ha1 : zg_B G ≤ a) (ha2 : a < nn) (hb1 : zg_B G ≤ b) (hb2 : b < nn) (hs : s ≤ 16) (hco : co i (nI s) = false) (hk9 : ¬ hk = -9) (hg : gi hk K = true) {p2 fn2 : Int32} {a2 : Nat} (h2 : ht = some a2) (hx : f a2 = .inr (2, [.int p2, .int fn2])) (hx1 : zg_B G ≤ a2) (hx2 : a2 < nn)  : zc G l yX7_setPlace cX7_setPlace 4 (some .int) 3 [.ref a, .int i, .ref c] (f, nn) 0 0 (fun o h' => o = some (.int 0) ∧ h' = (va_up f b (.inl (zg_c G 3, s, .inr (.inr (.inr (.inr (va_up thg i.toNatClampNeg (some a2))))))), nn)) := by
  refine zc.of (by decide) (Nat.le_of_ble_eq_true rfl) ?_
  refine zv_aload_n dX7_setPlace_0 rfl ?_
  refine zv_ifnonnull (tgt := 6) dX7_setPlace_1 (by decide) ?_
  refine zv_aload_n dX7_setPlace_6 rfl ?_
  refine zv_instNo (ci := 4) (fs := [.int K, .int (nI s), .ref b]) ha ha1 ha2 rfl zk_X7_43 (by decide +kernel) dX7_setPlace_7 ?_
  refine zv_if_eq (tgt := 25) dX7_setPlace_10 (by decide) (fun _ => ?_) (fun c => absurd rfl c)
  refine zv_aload_n dX7_setPlace_25 rfl ?_
  refine zv_instY (ci := 4) (fs := [.int K, .int (nI s), .ref b]) ha ha1 ha2 rfl zk_X7_48 (by decide +kernel) dX7_setPlace_26 ?_
  refine zv_if_eq (tgt := 44) dX7_setPlace_29 (by decide) (fun c => absurd c (by decide)) (fun _ => ?_)
  refine zv_aload_n dX7_setPlace_32 rfl ?_
  refine zv_castY (ci := 4) (fs := [.int K, .int (nI s), .ref b]) ha ha1 ha2 rfl zk_X7_48 (by decide +kernel) dX7_setPlace_33 ?_
  refine zv_astore_n dX7_setPlace_36 (by decide) ?_
  refine zv_aload_n dX7_setPlace_37 rfl ?_
  refine zv_iload_n dX7_setPlace_38 rfl ?_
  refine zv_aload_n dX7_setPlace_39 rfl ?_
  refine zv_callSq (mc := 0) (ms := 0) zm_X7_176 zkyX7_setThing (cX_sTP hc hc1 hc2 ha hb ha1 ha2 hb1 hb2 hs hco hk9 hg h2 hx hx1 hx2) rfl rfl (Nat.le_of_ble_eq_true rfl) (by decide) dX7_setPlace_40 ?_
  exact zv_ireturn dX7_setPlace_43 rfl ⟨rfl, rfl⟩
set_option maxRecDepth 20000 in
set_option maxHeartbeats 1000000 in
theorem cX_sTN {G : zh_G} {l : Launch} {f : Nat → va_E} {nn : Nat} {i : Int32} {c : Nat} {hk : Int32} {hv : Int64} {ht : Option Nat} (hc : f c = .inr (0, [.int hk, .long hv, va_rf ht])) (hc1 : zg_B G ≤ c) (hc2 : c < nn) {a b s : Nat} {K : Int32} {thg : Nat → Option Nat} (ha : f a = .inr (4, [.int K, .int (nI s), .ref b])) (hb : f b = .inl (zg_c G 3, s, .inr (.inr (.inr (.inr thg))))) (ha1 : zg_B G ≤ a) (ha2 : a < nn) (hb1 : zg_B G ≤ b) (hb2 : b < nn) (hs : s ≤ 16) (hco : co i (nI s) = false) (hk9 : ¬ hk = -9) (hg : gi hk K = true) {a2 b2 : Nat} {K2 S2 : Int32} (h2 : ht = some a2) (hx : f a2 = .inr (1, [.int K2, .int S2, .ref b2])) (hx1 : zg_B G ≤ a2) (hx2 : a2 < nn)  : zc G l yX7_setThing cX7_setThing 3 (some .int) 1 [.ref a, .int i, .ref c] (f, nn) 0 0 (fun o h' => o = some (.int 0) ∧ h' = (va_up f b (.inl (zg_c G 3, s, .inr (.inr (.inr (.inr (va_up thg i.toNatClampNeg (some a2))))))), nn)) := by
  refine zc.of (by decide) (Nat.le_of_ble_eq_true rfl) ?_
  refine zv_iload_n dX7_setThing_0 rfl ?_
  refine zv_if_lt (tgt := 12) dX7_setThing_1 (by decide) (fun c1 => ?_) (fun c1 => ?_)
  · exact absurd c1 (co_f hco).1
  · skip
    refine zv_iload_n dX7_setThing_4 rfl ?_
    refine zv_aload_n dX7_setThing_5 rfl ?_
    refine zv_get (ci := 4) (fs := [.int K, .int (nI s), .ref b]) zf_X7_180_4 ha ha1 ha2 rfl dX7_setThing_6 ?_
    refine zv_icmp_lt (tgt := 14) dX7_setThing_9 (by decide) (fun c9 => ?_) (fun c9 => ?_)
    · skip
      refine zv_aload_n dX7_setThing_14 rfl ?_
      refine zv_get (ci := 0) (fs := [.int hk, .long hv, va_rf ht]) zf_X7_76_0 hc hc1 hc2 rfl dX7_setThing_15 ?_
      refine zv_bipushv (v := (-9)) dX7_setThing_18 (by decide) ?_
      refine zv_icmp_eq (tgt := 39) dX7_setThing_20 (by decide) (fun c20 => ?_) (fun c20 => ?_)
      · exact absurd c20 hk9
      · skip
        refine zv_aload_n dX7_setThing_23 rfl ?_
        refine zv_get (ci := 0) (fs := [.int hk, .long hv, va_rf ht]) zf_X7_76_0 hc hc1 hc2 rfl dX7_setThing_24 ?_
        refine zv_aload_n dX7_setThing_27 rfl ?_
        refine zv_get (ci := 4) (fs := [.int K, .int (nI s), .ref b]) zf_X7_181_4 ha ha1 ha2 rfl dX7_setThing_28 ?_
        refine zv_callSq (mc := 0) (ms := 0) zm_X7_182 zkyX7_goesInto cX_goes rfl rfl (Nat.le_of_ble_eq_true rfl) (by decide) dX7_setThing_31 ?_
        refine zv_if_ne (tgt := 39) dX7_setThing_34 (by decide) (fun c34 => ?_) (fun c34 => ?_)
        · skip
          refine zv_aload_n dX7_setThing_39 rfl ?_
          refine zv_get (ci := 4) (fs := [.int K, .int (nI s), .ref b]) zf_X7_169_4 ha ha1 ha2 rfl dX7_setThing_40 ?_
          refine zv_iload_n dX7_setThing_43 rfl ?_
          refine zv_aload_n dX7_setThing_44 rfl ?_
          refine zv_get (ci := 0) (fs := [.int hk, .long hv, va_rf ht]) zf_X7_51_0 hc hc1 hc2 rfl dX7_setThing_45 ?_
          rw [h2]
          refine zv_aast3 (ci := 1) (vs := [.int K2, .int S2, .ref b2]) hb hb1 hb2 (co_in hs hco) hx hx1 hx2 rfl (Or.inl (by decide +kernel)) dX7_setThing_48 ?_
          refine zv_iconstv (v := 0) dX7_setThing_49 (by decide) ?_
          exact zv_ireturn dX7_setThing_50 rfl ⟨rfl, rfl⟩
        · exact absurd (by assumption) (zb_n.mpr hg)
    · exact absurd (co_f hco).2 c9
set_option maxRecDepth 20000 in
set_option maxHeartbeats 1000000 in
theorem cX_stTN {G : zh_G} {l : Launch} {f : Nat → va_E} {nn : Nat} {i : Int32} {c : Nat} {hk : Int32} {hv : Int64} {ht : Option Nat} (hc : f c = .inr (0, [.int hk, .long hv, va_rf ht])) (hc1 : zg_B G ≤ c) (hc2 : c < nn) {a b s : Nat} {K : Int32} {thg : Nat → Option Nat} (ha : f a = .inr (4, [.int K, .int (nI s), .ref b])) (hb : f b = .inl (zg_c G 3, s, .inr (.inr (.inr (.inr thg))))) (ha1 : zg_B G ≤ a) (ha2 : a < nn) (hb1 : zg_B G ≤ b) (hb2 : b < nn) (hs : s ≤ 16) (hco : co i (nI s) = false) (hk9 : ¬ hk = -9) (hg : gi hk K = true) {a2 b2 : Nat} {K2 S2 : Int32} (h2 : ht = some a2) (hx : f a2 = .inr (1, [.int K2, .int S2, .ref b2])) (hx1 : zg_B G ≤ a2) (hx2 : a2 < nn)  : zc G l yX7_setPlace cX7_setPlace 4 (some .int) 3 [.ref a, .int i, .ref c] (f, nn) 0 0 (fun o h' => o = some (.int 0) ∧ h' = (va_up f b (.inl (zg_c G 3, s, .inr (.inr (.inr (.inr (va_up thg i.toNatClampNeg (some a2))))))), nn)) := by
  refine zc.of (by decide) (Nat.le_of_ble_eq_true rfl) ?_
  refine zv_aload_n dX7_setPlace_0 rfl ?_
  refine zv_ifnonnull (tgt := 6) dX7_setPlace_1 (by decide) ?_
  refine zv_aload_n dX7_setPlace_6 rfl ?_
  refine zv_instNo (ci := 4) (fs := [.int K, .int (nI s), .ref b]) ha ha1 ha2 rfl zk_X7_43 (by decide +kernel) dX7_setPlace_7 ?_
  refine zv_if_eq (tgt := 25) dX7_setPlace_10 (by decide) (fun _ => ?_) (fun c => absurd rfl c)
  refine zv_aload_n dX7_setPlace_25 rfl ?_
  refine zv_instY (ci := 4) (fs := [.int K, .int (nI s), .ref b]) ha ha1 ha2 rfl zk_X7_48 (by decide +kernel) dX7_setPlace_26 ?_
  refine zv_if_eq (tgt := 44) dX7_setPlace_29 (by decide) (fun c => absurd c (by decide)) (fun _ => ?_)
  refine zv_aload_n dX7_setPlace_32 rfl ?_
  refine zv_castY (ci := 4) (fs := [.int K, .int (nI s), .ref b]) ha ha1 ha2 rfl zk_X7_48 (by decide +kernel) dX7_setPlace_33 ?_
  refine zv_astore_n dX7_setPlace_36 (by decide) ?_
  refine zv_aload_n dX7_setPlace_37 rfl ?_
  refine zv_iload_n dX7_setPlace_38 rfl ?_
  refine zv_aload_n dX7_setPlace_39 rfl ?_
  refine zv_callSq (mc := 0) (ms := 0) zm_X7_176 zkyX7_setThing (cX_sTN hc hc1 hc2 ha hb ha1 ha2 hb1 hb2 hs hco hk9 hg h2 hx hx1 hx2) rfl rfl (Nat.le_of_ble_eq_true rfl) (by decide) dX7_setPlace_40 ?_
  exact zv_ireturn dX7_setPlace_43 rfl ⟨rfl, rfl⟩
set_option maxRecDepth 20000 in
set_option maxHeartbeats 1000000 in
theorem cX_st0 {G : zh_G} {l : Launch} {f : Nat → va_E} {nn : Nat} {i : Int32} {c : Nat} {hk : Int32} {hv : Int64} {ht : Option Nat} (hc : f c = .inr (0, [.int hk, .long hv, va_rf ht])) (hc1 : zg_B G ≤ c) (hc2 : c < nn)  : zc G l yX7_setPlace cX7_setPlace 4 (some .int) 3 [.null, .int i, .ref c] (f, nn) 0 0 (fun o h' => o = some (.int 1) ∧ h' = (f, nn)) := by
  refine zc.of (by decide) (Nat.le_of_ble_eq_true rfl) ?_
  refine zv_aload_nN dX7_setPlace_0 rfl ?_
  refine zv_ifnonnullN dX7_setPlace_1 ?_
  refine zv_iconstv (v := 1) dX7_setPlace_4 (by decide) ?_
  exact zv_ireturn dX7_setPlace_5 rfl ⟨rfl, rfl⟩
set_option maxRecDepth 20000 in
set_option maxHeartbeats 1000000 in
theorem cX_stP {G : zh_G} {l : Launch} {f : Nat → va_E} {nn : Nat} {i : Int32} {c : Nat} {hk : Int32} {hv : Int64} {ht : Option Nat} (hc : f c = .inr (0, [.int hk, .long hv, va_rf ht])) (hc1 : zg_B G ≤ c) (hc2 : c < nn) {a : Nat} {p fn : Int32} (ha : f a = .inr (2, [.int p, .int fn])) (ha1 : zg_B G ≤ a) (ha2 : a < nn)  : zc G l yX7_setPlace cX7_setPlace 4 (some .int) 3 [.ref a, .int i, .ref c] (f, nn) 0 0 (fun o h' => o = some (.int 2) ∧ h' = (f, nn)) := by
  refine zc.of (by decide) (Nat.le_of_ble_eq_true rfl) ?_
  refine zv_aload_n dX7_setPlace_0 rfl ?_
  refine zv_ifnonnull (tgt := 6) dX7_setPlace_1 (by decide) ?_
  refine zv_aload_n dX7_setPlace_6 rfl ?_
  refine zv_instNo (ci := 2) (fs := [.int p, .int fn]) ha ha1 ha2 rfl zk_X7_43 (by decide +kernel) dX7_setPlace_7 ?_
  refine zv_if_eq (tgt := 25) dX7_setPlace_10 (by decide) (fun _ => ?_) (fun c => absurd rfl c)
  refine zv_aload_n dX7_setPlace_25 rfl ?_
  refine zv_instNo (ci := 2) (fs := [.int p, .int fn]) ha ha1 ha2 rfl zk_X7_48 (by decide +kernel) dX7_setPlace_26 ?_
  refine zv_if_eq (tgt := 44) dX7_setPlace_29 (by decide) (fun _ => ?_) (fun c => absurd rfl c)
  refine zv_iconstv (v := 2) dX7_setPlace_44 (by decide) ?_
  exact zv_ireturn dX7_setPlace_45 rfl ⟨rfl, rfl⟩
end
section
theorem zv_more {G : zh_G} {l : Launch} {y : MethodName} {cc : ByteArray} {n : Nat} {r : Option FieldType} {d mc ms0 pc : Nat} {lv : List (Nat × Value)} {st : List Value} {h : zh_H} {Q : Option Value → zh_H → Prop} (mc1 ms1 : Nat) (h1 : mc1 ≤ mc) (h2 : ms1 ≤ ms0) (kk : zv G l y cc n r d mc1 ms1 pc lv st h Q) : zv G l y cc n r d mc ms0 pc lv st h Q := by
  intro p e R s m args below meth c Qf C H locs cells slots ls hW hL h3 h4 hl
  exact kk p e R s m args below meth c Qf C H locs cells slots ls hW hL (by omega) (by omega) hl
set_option maxRecDepth 20000 in
set_option maxHeartbeats 1000000 in
theorem cX_kindsTaken0 {G : zh_G} {l : Launch} {f : Nat → va_E} {nn : Nat}  : zc G l yX7_kindsTaken cX7_kindsTaken 4 (some .int) 1 [.null] (f, nn) 0 0 (fun o h' => o = some (.int 0) ∧ h' = (f, nn)) := by
  refine zc.of (by decide) (Nat.le_of_ble_eq_true rfl) ?_
  refine zv_iconstv (v := 0) dX7_kindsTaken_0 (by decide) ?_
  refine zv_istore_n dX7_kindsTaken_1 (by decide) ?_
  refine zv_aload_nN dX7_kindsTaken_2 rfl ?_
  refine zv_instN dX7_kindsTaken_3 ?_
  refine zv_if_eq (tgt := 45) dX7_kindsTaken_6 (by decide) (fun _ => ?_) (fun c => absurd rfl c)
  refine zv_iload_n dX7_kindsTaken_45 rfl ?_
  exact zv_ireturn dX7_kindsTaken_46 rfl ⟨rfl, rfl⟩
set_option maxRecDepth 20000 in
set_option maxHeartbeats 1000000 in
theorem cX_kindsGiven0 {G : zh_G} {l : Launch} {f : Nat → va_E} {nn : Nat}  : zc G l yX7_kindsGiven cX7_kindsGiven 4 (some .int) 1 [.null] (f, nn) 0 0 (fun o h' => o = some (.int 0) ∧ h' = (f, nn)) := by
  refine zc.of (by decide) (Nat.le_of_ble_eq_true rfl) ?_
  refine zv_iconstv (v := 0) dX7_kindsGiven_0 (by decide) ?_
  refine zv_istore_n dX7_kindsGiven_1 (by decide) ?_
  refine zv_aload_nN dX7_kindsGiven_2 rfl ?_
  refine zv_instN dX7_kindsGiven_3 ?_
  refine zv_if_eq (tgt := 45) dX7_kindsGiven_6 (by decide) (fun _ => ?_) (fun c => absurd rfl c)
  refine zv_iload_n dX7_kindsGiven_45 rfl ?_
  exact zv_ireturn dX7_kindsGiven_46 rfl ⟨rfl, rfl⟩
set_option maxRecDepth 20000 in
set_option maxHeartbeats 1000000 in
theorem cX_kindsTakenP {G : zh_G} {l : Launch} {f : Nat → va_E} {nn : Nat} {a : Nat} {p fn : Int32} (ha : f a = .inr (2, [.int p, .int fn])) (ha1 : zg_B G ≤ a) (ha2 : a < nn)  : zc G l yX7_kindsTaken cX7_kindsTaken 4 (some .int) 1 [.ref a] (f, nn) 0 0 (fun o h' => o = some (.int 0) ∧ h' = (f, nn)) := by
  refine zc.of (by decide) (Nat.le_of_ble_eq_true rfl) ?_
  refine zv_iconstv (v := 0) dX7_kindsTaken_0 (by decide) ?_
  refine zv_istore_n dX7_kindsTaken_1 (by decide) ?_
  refine zv_aload_n dX7_kindsTaken_2 rfl ?_
  refine zv_instNo (ci := 2) (fs := [.int p, .int fn]) ha ha1 ha2 rfl zk_X7_43 (by decide +kernel) dX7_kindsTaken_3 ?_
  refine zv_if_eq (tgt := 45) dX7_kindsTaken_6 (by decide) (fun _ => ?_) (fun c => absurd rfl c)
  refine zv_iload_n dX7_kindsTaken_45 rfl ?_
  exact zv_ireturn dX7_kindsTaken_46 rfl ⟨rfl, rfl⟩
set_option maxRecDepth 20000 in
set_option maxHeartbeats 1000000 in
theorem cX_kindsGivenP {G : zh_G} {l : Launch} {f : Nat → va_E} {nn : Nat} {a : Nat} {p fn : Int32} (ha : f a = .inr (2, [.int p, .int fn])) (ha1 : zg_B G ≤ a) (ha2 : a < nn)  : zc G l yX7_kindsGiven cX7_kindsGiven 4 (some .int) 1 [.ref a] (f, nn) 0 0 (fun o h' => o = some (.int 0) ∧ h' = (f, nn)) := by
  refine zc.of (by decide) (Nat.le_of_ble_eq_true rfl) ?_
  refine zv_iconstv (v := 0) dX7_kindsGiven_0 (by decide) ?_
  refine zv_istore_n dX7_kindsGiven_1 (by decide) ?_
  refine zv_aload_n dX7_kindsGiven_2 rfl ?_
  refine zv_instNo (ci := 2) (fs := [.int p, .int fn]) ha ha1 ha2 rfl zk_X7_43 (by decide +kernel) dX7_kindsGiven_3 ?_
  refine zv_if_eq (tgt := 45) dX7_kindsGiven_6 (by decide) (fun _ => ?_) (fun c => absurd rfl c)
  refine zv_iload_n dX7_kindsGiven_45 rfl ?_
  exact zv_ireturn dX7_kindsGiven_46 rfl ⟨rfl, rfl⟩
set_option maxRecDepth 20000 in
set_option maxHeartbeats 1000000 in
theorem cX_kindsTakenT {G : zh_G} {l : Launch} {f : Nat → va_E} {nn : Nat} {a b s : Nat} {K : Int32} {thg : Nat → Option Nat} (ha : f a = .inr (4, [.int K, .int (nI s), .ref b])) (hb : f b = .inl (zg_c G 3, s, .inr (.inr (.inr (.inr thg))))) (ha1 : zg_B G ≤ a) (ha2 : a < nn) (hb1 : zg_B G ≤ b) (hb2 : b < nn) (hs : s ≤ 16)  : zc G l yX7_kindsTaken cX7_kindsTaken 4 (some .int) 1 [.ref a] (f, nn) 0 0 (fun o h' => o = some (.int 0) ∧ h' = (f, nn)) := by
  refine zc.of (by decide) (Nat.le_of_ble_eq_true rfl) ?_
  refine zv_iconstv (v := 0) dX7_kindsTaken_0 (by decide) ?_
  refine zv_istore_n dX7_kindsTaken_1 (by decide) ?_
  refine zv_aload_n dX7_kindsTaken_2 rfl ?_
  refine zv_instNo (ci := 4) (fs := [.int K, .int (nI s), .ref b]) ha ha1 ha2 rfl zk_X7_43 (by decide +kernel) dX7_kindsTaken_3 ?_
  refine zv_if_eq (tgt := 45) dX7_kindsTaken_6 (by decide) (fun _ => ?_) (fun c => absurd rfl c)
  refine zv_iload_n dX7_kindsTaken_45 rfl ?_
  exact zv_ireturn dX7_kindsTaken_46 rfl ⟨rfl, rfl⟩
set_option maxRecDepth 20000 in
set_option maxHeartbeats 1000000 in
theorem cX_kindsGivenT {G : zh_G} {l : Launch} {f : Nat → va_E} {nn : Nat} {a b s : Nat} {K : Int32} {thg : Nat → Option Nat} (ha : f a = .inr (4, [.int K, .int (nI s), .ref b])) (hb : f b = .inl (zg_c G 3, s, .inr (.inr (.inr (.inr thg))))) (ha1 : zg_B G ≤ a) (ha2 : a < nn) (hb1 : zg_B G ≤ b) (hb2 : b < nn) (hs : s ≤ 16)  : zc G l yX7_kindsGiven cX7_kindsGiven 4 (some .int) 1 [.ref a] (f, nn) 0 0 (fun o h' => o = some (.int 0) ∧ h' = (f, nn)) := by
  refine zc.of (by decide) (Nat.le_of_ble_eq_true rfl) ?_
  refine zv_iconstv (v := 0) dX7_kindsGiven_0 (by decide) ?_
  refine zv_istore_n dX7_kindsGiven_1 (by decide) ?_
  refine zv_aload_n dX7_kindsGiven_2 rfl ?_
  refine zv_instNo (ci := 4) (fs := [.int K, .int (nI s), .ref b]) ha ha1 ha2 rfl zk_X7_43 (by decide +kernel) dX7_kindsGiven_3 ?_
  refine zv_if_eq (tgt := 45) dX7_kindsGiven_6 (by decide) (fun _ => ?_) (fun c => absurd rfl c)
  refine zv_iload_n dX7_kindsGiven_45 rfl ?_
  exact zv_ireturn dX7_kindsGiven_46 rfl ⟨rfl, rfl⟩
set_option maxRecDepth 20000 in
set_option maxHeartbeats 1000000 in
theorem cX_kindsTaken_l {G : zh_G} {l : Launch} {f : Nat → va_E} {nn : Nat} {a b s : Nat} {K : Int32} {num : Nat → Int64} (ha : f a = .inr (1, [.int K, .int (nI s), .ref b])) (hb : f b = .inl (zg_c G 1, s, .inr (.inl num))) (ha1 : zg_B G ≤ a) (ha2 : a < nn) (hb1 : zg_B G ≤ b) (hb2 : b < nn) (hs : s ≤ 16) : ∀ (m j : Nat) (acc : Int32), j + m = 8 → zv G l yX7_kindsTaken cX7_kindsTaken 4 (some .int) 1 0 0 16 [(3, .int (nI j)), (1, .int acc), (0, .ref a), (2, .ref a)] [] (f, nn) (fun o h' => o = some (.int (s_bits (fun j => gi (nI j) K) m j acc)) ∧ h' = (f, nn)) := by
  intro m
  induction m with
  | zero =>
    intro j acc hj
    have hj : j = 8 := by omega
    subst hj
    refine zv_iload_n dX7_kindsTaken_16 rfl ?_
    refine zv_bipushv (v := 8) dX7_kindsTaken_17 (by decide) ?_
    refine zv_icmp_ge (tgt := 45) dX7_kindsTaken_19 (by decide) (fun _ => ?_) (fun c => absurd (by decide) c)
    refine zv_iload_n dX7_kindsTaken_45 rfl ?_
    exact zv_ireturn dX7_kindsTaken_46 rfl ⟨rfl, rfl⟩
  | succ m ih =>
    intro j acc hj
    refine zv_iload_n dX7_kindsTaken_16 rfl ?_
    refine zv_bipushv (v := 8) dX7_kindsTaken_17 (by decide) ?_
    refine zv_icmp_ge (tgt := 45) dX7_kindsTaken_19 (by decide) (fun c19 => ?_) (fun c19 => ?_)
    · exact absurd c19 (by rw [show (8 : Int32) = nI 8 from rfl]; exact nI_ge (by omega) (by decide))
    · skip
      refine zv_iload_n dX7_kindsTaken_22 rfl ?_
      refine zv_aload_n dX7_kindsTaken_23 rfl ?_
      refine zv_get (ci := 1) (fs := [.int K, .int (nI s), .ref b]) zf_X7_164_1 ha ha1 ha2 rfl dX7_kindsTaken_24 ?_
      refine zv_callSq (mc := 0) (ms := 0) zm_X7_182 zkyX7_goesInto cX_goes rfl rfl (Nat.le_of_ble_eq_true rfl) (by decide) dX7_kindsTaken_27 ?_
      refine zv_if_eq (tgt := 39) dX7_kindsTaken_30 (by decide) (fun c30 => ?_) (fun c30 => ?_)
      · skip
        refine zv_iinc dX7_kindsTaken_39 rfl (by decide) ?_
        refine zv_goto (tgt := 16) dX7_kindsTaken_42 (by decide) ?_
        have hp : gi (nI j) K = false := zb_0.mp c30
        refine zv_lv [(3, .int (nI (j + 1))), (1, .int acc), (0, .ref a), (2, .ref a)] (by simp [zs1, Value.category, nI_succ, show ((1 : Fin 4) : Nat) = 1 from rfl]) ?_
        have z := ih (j + 1) acc (by omega)
        rw [show s_bits (fun j => gi (nI j) K) (m + 1) j acc = s_bits (fun j => gi (nI j) K) m (j + 1) acc from by show s_bits _ m (j + 1) (acc ||| (if _ = true then (1 : Int32) <<< (nI j &&& 31) else 0)) = _; simp [hp]]
        exact z
      · skip
        refine zv_iload_n dX7_kindsTaken_33 rfl ?_
        refine zv_iconstv (v := 1) dX7_kindsTaken_34 (by decide) ?_
        refine zv_iload_n dX7_kindsTaken_35 rfl ?_
        refine zv_ishl dX7_kindsTaken_36 ?_
        refine zv_ior dX7_kindsTaken_37 ?_
        refine zv_istore_n dX7_kindsTaken_38 (by decide) ?_
        refine zv_iinc dX7_kindsTaken_39 rfl (by decide) ?_
        refine zv_goto (tgt := 16) dX7_kindsTaken_42 (by decide) ?_
        have hp : gi (nI j) K = true := zb_n.mp c30
        refine zv_lv [(3, .int (nI (j + 1))), (1, .int (acc ||| (1 : Int32) <<< (nI j &&& 31))), (0, .ref a), (2, .ref a)] (by simp [zs1, Value.category, nI_succ, show ((1 : Fin 4) : Nat) = 1 from rfl]) ?_
        have z := ih (j + 1) (acc ||| (1 : Int32) <<< (nI j &&& 31)) (by omega)
        rw [show s_bits (fun j => gi (nI j) K) (m + 1) j acc = s_bits (fun j => gi (nI j) K) m (j + 1) (acc ||| (1 : Int32) <<< (nI j &&& 31)) from by show s_bits _ m (j + 1) (acc ||| (if _ = true then (1 : Int32) <<< (nI j &&& 31) else 0)) = _; simp [hp]]
        exact z
set_option maxRecDepth 20000 in
set_option maxHeartbeats 1000000 in
theorem cX_kindsTakenN {G : zh_G} {l : Launch} {f : Nat → va_E} {nn : Nat} {a b s : Nat} {K : Int32} {num : Nat → Int64} (ha : f a = .inr (1, [.int K, .int (nI s), .ref b])) (hb : f b = .inl (zg_c G 1, s, .inr (.inl num))) (ha1 : zg_B G ≤ a) (ha2 : a < nn) (hb1 : zg_B G ≤ b) (hb2 : b < nn) (hs : s ≤ 16)  : zc G l yX7_kindsTaken cX7_kindsTaken 4 (some .int) 1 [.ref a] (f, nn) 0 0 (fun o h' => o = some (.int (s_bits (fun j => gi (nI j) K) 8 0 0)) ∧ h' = (f, nn)) := by
  refine zc.of (by decide) (Nat.le_of_ble_eq_true rfl) ?_
  refine zv_iconstv (v := 0) dX7_kindsTaken_0 (by decide) ?_
  refine zv_istore_n dX7_kindsTaken_1 (by decide) ?_
  refine zv_aload_n dX7_kindsTaken_2 rfl ?_
  refine zv_instY (ci := 1) (fs := [.int K, .int (nI s), .ref b]) ha ha1 ha2 rfl zk_X7_43 (by decide +kernel) dX7_kindsTaken_3 ?_
  refine zv_if_eq (tgt := 45) dX7_kindsTaken_6 (by decide) (fun c => absurd c (by decide)) (fun _ => ?_)
  refine zv_aload_n dX7_kindsTaken_9 rfl ?_
  refine zv_castY (ci := 1) (fs := [.int K, .int (nI s), .ref b]) ha ha1 ha2 rfl zk_X7_43 (by decide +kernel) dX7_kindsTaken_10 ?_
  refine zv_astore_n dX7_kindsTaken_13 (by decide) ?_
  refine zv_iconstv (v := 0) dX7_kindsTaken_14 (by decide) ?_
  refine zv_istore_n dX7_kindsTaken_15 (by decide) ?_
  refine zv_lv [(3, .int (nI 0)), (1, .int 0), (0, .ref a), (2, .ref a)] (by simp [zs1, lv_args, Value.category, nI_0, show ((1 : Fin 4) : Nat) = 1 from rfl, show ((2 : Fin 4) : Nat) = 2 from rfl, show ((3 : Fin 4) : Nat) = 3 from rfl]) ?_
  exact cX_kindsTaken_l ha hb ha1 ha2 hb1 hb2 hs 8 0 0 rfl
set_option maxRecDepth 20000 in
set_option maxHeartbeats 1000000 in
theorem cX_kindsGiven_l {G : zh_G} {l : Launch} {f : Nat → va_E} {nn : Nat} {a b s : Nat} {K : Int32} {num : Nat → Int64} (ha : f a = .inr (1, [.int K, .int (nI s), .ref b])) (hb : f b = .inl (zg_c G 1, s, .inr (.inl num))) (ha1 : zg_B G ≤ a) (ha2 : a < nn) (hb1 : zg_B G ≤ b) (hb2 : b < nn) (hs : s ≤ 16) : ∀ (m j : Nat) (acc : Int32), j + m = 8 → zv G l yX7_kindsGiven cX7_kindsGiven 4 (some .int) 1 0 0 16 [(3, .int (nI j)), (1, .int acc), (0, .ref a), (2, .ref a)] [] (f, nn) (fun o h' => o = some (.int (s_bits (fun j => gi K (nI j)) m j acc)) ∧ h' = (f, nn)) := by
  intro m
  induction m with
  | zero =>
    intro j acc hj
    have hj : j = 8 := by omega
    subst hj
    refine zv_iload_n dX7_kindsGiven_16 rfl ?_
    refine zv_bipushv (v := 8) dX7_kindsGiven_17 (by decide) ?_
    refine zv_icmp_ge (tgt := 45) dX7_kindsGiven_19 (by decide) (fun _ => ?_) (fun c => absurd (by decide) c)
    refine zv_iload_n dX7_kindsGiven_45 rfl ?_
    exact zv_ireturn dX7_kindsGiven_46 rfl ⟨rfl, rfl⟩
  | succ m ih =>
    intro j acc hj
    refine zv_iload_n dX7_kindsGiven_16 rfl ?_
    refine zv_bipushv (v := 8) dX7_kindsGiven_17 (by decide) ?_
    refine zv_icmp_ge (tgt := 45) dX7_kindsGiven_19 (by decide) (fun c19 => ?_) (fun c19 => ?_)
    · exact absurd c19 (by rw [show (8 : Int32) = nI 8 from rfl]; exact nI_ge (by omega) (by decide))
    · skip
      refine zv_aload_n dX7_kindsGiven_22 rfl ?_
      refine zv_get (ci := 1) (fs := [.int K, .int (nI s), .ref b]) zf_X7_164_1 ha ha1 ha2 rfl dX7_kindsGiven_23 ?_
      refine zv_iload_n dX7_kindsGiven_26 rfl ?_
      refine zv_callSq (mc := 0) (ms := 0) zm_X7_182 zkyX7_goesInto cX_goes rfl rfl (Nat.le_of_ble_eq_true rfl) (by decide) dX7_kindsGiven_27 ?_
      refine zv_if_eq (tgt := 39) dX7_kindsGiven_30 (by decide) (fun c30 => ?_) (fun c30 => ?_)
      · skip
        refine zv_iinc dX7_kindsGiven_39 rfl (by decide) ?_
        refine zv_goto (tgt := 16) dX7_kindsGiven_42 (by decide) ?_
        have hp : gi K (nI j) = false := zb_0.mp c30
        refine zv_lv [(3, .int (nI (j + 1))), (1, .int acc), (0, .ref a), (2, .ref a)] (by simp [zs1, Value.category, nI_succ, show ((1 : Fin 4) : Nat) = 1 from rfl]) ?_
        have z := ih (j + 1) acc (by omega)
        rw [show s_bits (fun j => gi K (nI j)) (m + 1) j acc = s_bits (fun j => gi K (nI j)) m (j + 1) acc from by show s_bits _ m (j + 1) (acc ||| (if _ = true then (1 : Int32) <<< (nI j &&& 31) else 0)) = _; simp [hp]]
        exact z
      · skip
        refine zv_iload_n dX7_kindsGiven_33 rfl ?_
        refine zv_iconstv (v := 1) dX7_kindsGiven_34 (by decide) ?_
        refine zv_iload_n dX7_kindsGiven_35 rfl ?_
        refine zv_ishl dX7_kindsGiven_36 ?_
        refine zv_ior dX7_kindsGiven_37 ?_
        refine zv_istore_n dX7_kindsGiven_38 (by decide) ?_
        refine zv_iinc dX7_kindsGiven_39 rfl (by decide) ?_
        refine zv_goto (tgt := 16) dX7_kindsGiven_42 (by decide) ?_
        have hp : gi K (nI j) = true := zb_n.mp c30
        refine zv_lv [(3, .int (nI (j + 1))), (1, .int (acc ||| (1 : Int32) <<< (nI j &&& 31))), (0, .ref a), (2, .ref a)] (by simp [zs1, Value.category, nI_succ, show ((1 : Fin 4) : Nat) = 1 from rfl]) ?_
        have z := ih (j + 1) (acc ||| (1 : Int32) <<< (nI j &&& 31)) (by omega)
        rw [show s_bits (fun j => gi K (nI j)) (m + 1) j acc = s_bits (fun j => gi K (nI j)) m (j + 1) (acc ||| (1 : Int32) <<< (nI j &&& 31)) from by show s_bits _ m (j + 1) (acc ||| (if _ = true then (1 : Int32) <<< (nI j &&& 31) else 0)) = _; simp [hp]]
        exact z
set_option maxRecDepth 20000 in
set_option maxHeartbeats 1000000 in
theorem cX_kindsGivenN {G : zh_G} {l : Launch} {f : Nat → va_E} {nn : Nat} {a b s : Nat} {K : Int32} {num : Nat → Int64} (ha : f a = .inr (1, [.int K, .int (nI s), .ref b])) (hb : f b = .inl (zg_c G 1, s, .inr (.inl num))) (ha1 : zg_B G ≤ a) (ha2 : a < nn) (hb1 : zg_B G ≤ b) (hb2 : b < nn) (hs : s ≤ 16)  : zc G l yX7_kindsGiven cX7_kindsGiven 4 (some .int) 1 [.ref a] (f, nn) 0 0 (fun o h' => o = some (.int (s_bits (fun j => gi K (nI j)) 8 0 0)) ∧ h' = (f, nn)) := by
  refine zc.of (by decide) (Nat.le_of_ble_eq_true rfl) ?_
  refine zv_iconstv (v := 0) dX7_kindsGiven_0 (by decide) ?_
  refine zv_istore_n dX7_kindsGiven_1 (by decide) ?_
  refine zv_aload_n dX7_kindsGiven_2 rfl ?_
  refine zv_instY (ci := 1) (fs := [.int K, .int (nI s), .ref b]) ha ha1 ha2 rfl zk_X7_43 (by decide +kernel) dX7_kindsGiven_3 ?_
  refine zv_if_eq (tgt := 45) dX7_kindsGiven_6 (by decide) (fun c => absurd c (by decide)) (fun _ => ?_)
  refine zv_aload_n dX7_kindsGiven_9 rfl ?_
  refine zv_castY (ci := 1) (fs := [.int K, .int (nI s), .ref b]) ha ha1 ha2 rfl zk_X7_43 (by decide +kernel) dX7_kindsGiven_10 ?_
  refine zv_astore_n dX7_kindsGiven_13 (by decide) ?_
  refine zv_iconstv (v := 0) dX7_kindsGiven_14 (by decide) ?_
  refine zv_istore_n dX7_kindsGiven_15 (by decide) ?_
  refine zv_lv [(3, .int (nI 0)), (1, .int 0), (0, .ref a), (2, .ref a)] (by simp [zs1, lv_args, Value.category, nI_0, show ((1 : Fin 4) : Nat) = 1 from rfl, show ((2 : Fin 4) : Nat) = 2 from rfl, show ((3 : Fin 4) : Nat) = 3 from rfl]) ?_
  exact cX_kindsGiven_l ha hb ha1 ha2 hb1 hb2 hs 8 0 0 rfl
set_option maxRecDepth 20000 in
set_option maxHeartbeats 1000000 in
theorem cX_become {G : zh_G} {l : Launch} {f : Nat → va_E} {nn : Nat} {c : Nat} {v0 v1 v2 v3 v4 v5 : Value} (hc : f c = .inr (3, [v0, v1, v2, v3, v4, v5])) (hc1 : zg_B G ≤ c) (hc2 : c < nn) {op ra1 i1 rb1 k1 : Int32} : zc G l yX4_become cX4_become 6 none 0 [.ref c, .int op, .int ra1, .int i1, .int rb1, .int k1] (f, nn) 0 0 (fun o h' => o = none ∧ h' = (va_up f c (.inr (3, [.int op, .int ra1, .int i1, .int rb1, .int k1, .int (-9)])), nn)) := by
  refine zc.of (by decide) (Nat.le_of_ble_eq_true rfl) ?_
  refine zv_aload_n dX4_become_0 rfl ?_
  refine zv_iload_n dX4_become_1 rfl ?_
  refine zv_put (fs := [v0, v1, v2, v3, v4, v5]) zfw_X4_9_3 (by simp [va_up, hc]) hc1 hc2 rfl rfl (by simp) dX4_become_2 ?_
  refine zv_aload_n dX4_become_5 rfl ?_
  refine zv_iload_n dX4_become_6 rfl ?_
  refine zv_put (fs := [.int op, v1, v2, v3, v4, v5]) zfw_X4_15_3 (by simp [va_up, hc]) hc1 hc2 rfl rfl (by simp) dX4_become_7 ?_
  refine zv_aload_n dX4_become_10 rfl ?_
  refine zv_iload_n dX4_become_11 rfl ?_
  refine zv_put (fs := [.int op, .int ra1, v2, v3, v4, v5]) zfw_X4_18_3 (by simp [va_up, hc]) hc1 hc2 rfl rfl (by simp) dX4_become_12 ?_
  refine zv_aload_n dX4_become_15 rfl ?_
  refine zv_iload dX4_become_16 rfl ?_
  refine zv_put (fs := [.int op, .int ra1, .int i1, v3, v4, v5]) zfw_X4_21_3 (by simp [va_up, hc]) hc1 hc2 rfl rfl (by simp) dX4_become_18 ?_
  refine zv_aload_n dX4_become_21 rfl ?_
  refine zv_iload dX4_become_22 rfl ?_
  refine zv_put (fs := [.int op, .int ra1, .int i1, .int rb1, v4, v5]) zfw_X4_24_3 (by simp [va_up, hc]) hc1 hc2 rfl rfl (by simp) dX4_become_24 ?_
  refine zv_aload_n dX4_become_27 rfl ?_
  refine zv_bipushv (v := (-9)) dX4_become_28 (by decide) ?_
  refine zv_put (fs := [.int op, .int ra1, .int i1, .int rb1, .int k1, v5]) zfw_X4_27_3 (by simp [va_up, hc]) hc1 hc2 rfl rfl (by simp) dX4_become_30 ?_
  exact zv_return dX4_become_33 rfl ⟨rfl, by simp [bx_uu]⟩
set_option maxRecDepth 20000 in
set_option maxHeartbeats 1000000 in
theorem cX_iThing {G : zh_G} {l : Launch} {h : zh_H} {a : Nat} : zc G l yX5_init cX5_init 1 none 1 [.ref a] h 0 0 (fun o h' => o = none ∧ h' = h) := by
  refine zc.of (by decide) (Nat.le_of_ble_eq_true rfl) ?_
  refine zv_aload_n dX5_init_0 rfl ?_
  refine zv_objInit zo_X5_1 zo_i zo_c (Nat.le_of_ble_eq_true rfl) (by decide) dX5_init_1 ?_
  exact zv_return dX5_init_4 rfl ⟨rfl, rfl⟩
set_option maxRecDepth 20000 in
set_option maxHeartbeats 1000000 in
theorem cX_iRow1 {G : zh_G} {l : Launch} {f : Nat → va_E} {nn : Nat} {c : Nat} (hc : f c = .inr (1, [.int 0, .int 0, .null])) (hc1 : zg_B G ≤ c) (hc2 : c < nn) {k1 n1 : Int32} : zc G l yX3_init cX3_init 3 none 2 [.ref c, .int k1, .int n1] (f, nn) 0 0 (fun o h' => o = none ∧ h' = (va_up f c (.inr (1, [.int k1, .int n1, .null])), nn)) := by
  refine zc.of (by decide) (Nat.le_of_ble_eq_true rfl) ?_
  refine zv_aload_n dX3_init_0 rfl ?_
  refine zv_callIq (mc := 0) (ms := 0) zm_X3_1 zkyX5_init cX_iThing rfl rfl (Nat.le_of_ble_eq_true rfl) (by decide) dX3_init_1 ?_
  refine zv_aload_n dX3_init_4 rfl ?_
  refine zv_iload_n dX3_init_5 rfl ?_
  refine zv_putF (fs := [.int 0, .int 0, .null]) zfw_X3_7_1 rfl (by simp [va_up, hc]) hc1 hc2 rfl rfl (by simp) dX3_init_6 ?_
  refine zv_aload_n dX3_init_9 rfl ?_
  refine zv_iload_n dX3_init_10 rfl ?_
  refine zv_putF (fs := [.int k1, .int 0, .null]) zfw_X3_13_1 rfl (by simp [va_up, hc]) hc1 hc2 rfl rfl (by simp) dX3_init_11 ?_
  exact zv_return dX3_init_14 rfl ⟨rfl, by simp [bx_uu]⟩
set_option maxRecDepth 20000 in
set_option maxHeartbeats 1000000 in
theorem cX_iRow4 {G : zh_G} {l : Launch} {f : Nat → va_E} {nn : Nat} {c : Nat} (hc : f c = .inr (4, [.int 0, .int 0, .null])) (hc1 : zg_B G ≤ c) (hc2 : c < nn) {k1 n1 : Int32} : zc G l yX3_init cX3_init 3 none 2 [.ref c, .int k1, .int n1] (f, nn) 0 0 (fun o h' => o = none ∧ h' = (va_up f c (.inr (4, [.int k1, .int n1, .null])), nn)) := by
  refine zc.of (by decide) (Nat.le_of_ble_eq_true rfl) ?_
  refine zv_aload_n dX3_init_0 rfl ?_
  refine zv_callIq (mc := 0) (ms := 0) zm_X3_1 zkyX5_init cX_iThing rfl rfl (Nat.le_of_ble_eq_true rfl) (by decide) dX3_init_1 ?_
  refine zv_aload_n dX3_init_4 rfl ?_
  refine zv_iload_n dX3_init_5 rfl ?_
  refine zv_putF (fs := [.int 0, .int 0, .null]) zfw_X3_7_4 rfl (by simp [va_up, hc]) hc1 hc2 rfl rfl (by simp) dX3_init_6 ?_
  refine zv_aload_n dX3_init_9 rfl ?_
  refine zv_iload_n dX3_init_10 rfl ?_
  refine zv_putF (fs := [.int k1, .int 0, .null]) zfw_X3_13_4 rfl (by simp [va_up, hc]) hc1 hc2 rfl rfl (by simp) dX3_init_11 ?_
  exact zv_return dX3_init_14 rfl ⟨rfl, by simp [bx_uu]⟩
set_option maxRecDepth 20000 in
set_option maxHeartbeats 1000000 in
theorem cX_iX1 {G : zh_G} {l : Launch} {f : Nat → va_E} {nn : Nat} {c s : Nat} (hs : s ≤ 16) (hc : f c = .inr (1, [.int 0, .int 0, .null])) (hc1 : zg_B G ≤ c) (hc2 : c < nn) {k1 : Int32} : zc G l yX1_init cX1_init 3 none 3 [.ref c, .int k1, .int (nI s)] (f, nn) 1 16 (fun o h' => o = none ∧ h' = (va_up (va_up f nn (.inl (zg_c G 1, s, .inr (.inl (fun _ => 0))))) c (.inr (1, [.int k1, .int (nI s), .ref nn])), nn + 1)) := by
  refine zc.of (by decide) (Nat.le_of_ble_eq_true rfl) ?_
  refine zv_more (0 + (0 + 1)) (0 + (0 + s)) (by omega) (by omega) ?_
  refine zv_aload_n dX1_init_0 rfl ?_
  refine zv_iload_n dX1_init_1 rfl ?_
  refine zv_iload_n dX1_init_2 rfl ?_
  refine zv_callIq (mc := 0 + 1) (ms := 0 + s) zm_X1_1 zkyX3_init (cX_iRow1 hc hc1 hc2) rfl rfl (Nat.le_of_ble_eq_true rfl) (by decide) dX1_init_3 ?_
  refine zv_aload_n dX1_init_6 rfl ?_
  refine zv_iload_n dX1_init_7 rfl ?_
  refine zv_newJ (N := s) (mc := 0) (ms := 0) za_long (nI_pos (by omega)) (nI_clamp (by omega)) (by omega) dX1_init_8 ?_
  refine zv_putF (fs := [.int k1, .int (nI s), .null]) zfw_X1_7_1 rfl (by simp [va_up, hc, Nat.ne_of_lt hc2]) hc1 (Nat.lt_succ_of_lt hc2) rfl rfl (by simp) dX1_init_10 ?_
  exact zv_return dX1_init_13 rfl ⟨rfl, by refine Prod.ext ?_ rfl; funext x; simp only [va_up]; by_cases e1 : x = c <;> by_cases e2 : x = nn <;> simp_all⟩
set_option maxRecDepth 20000 in
set_option maxHeartbeats 1000000 in
theorem cX_iX6 {G : zh_G} {l : Launch} {f : Nat → va_E} {nn : Nat} {c s : Nat} (hs : s ≤ 16) (hc : f c = .inr (4, [.int 0, .int 0, .null])) (hc1 : zg_B G ≤ c) (hc2 : c < nn) {k1 : Int32} : zc G l yX6_init cX6_init 3 none 3 [.ref c, .int k1, .int (nI s)] (f, nn) 1 16 (fun o h' => o = none ∧ h' = (va_up (va_up f nn (.inl (zg_c G 3, s, .inr (.inr (.inr (.inr (fun _ => none))))))) c (.inr (4, [.int k1, .int (nI s), .ref nn])), nn + 1)) := by
  refine zc.of (by decide) (Nat.le_of_ble_eq_true rfl) ?_
  refine zv_more (0 + (0 + 1)) (0 + (0 + s)) (by omega) (by omega) ?_
  refine zv_aload_n dX6_init_0 rfl ?_
  refine zv_iload_n dX6_init_1 rfl ?_
  refine zv_iload_n dX6_init_2 rfl ?_
  refine zv_callIq (mc := 0 + 1) (ms := 0 + s) zm_X6_1 zkyX3_init (cX_iRow4 hc hc1 hc2) rfl rfl (Nat.le_of_ble_eq_true rfl) (by decide) dX6_init_3 ?_
  refine zv_aload_n dX6_init_6 rfl ?_
  refine zv_iload_n dX6_init_7 rfl ?_
  refine zv_newT (N := s) (mc := 0) (ms := 0) zk_X6_7 (nI_pos (by omega)) (nI_clamp (by omega)) (by omega) dX6_init_8 ?_
  refine zv_putF (fs := [.int k1, .int (nI s), .null]) zfw_X6_9_4 rfl (by simp [va_up, hc, Nat.ne_of_lt hc2]) hc1 (Nat.lt_succ_of_lt hc2) rfl rfl (by simp) dX6_init_11 ?_
  exact zv_return dX6_init_14 rfl ⟨rfl, by refine Prod.ext ?_ rfl; funext x; simp only [va_up]; by_cases e1 : x = c <;> by_cases e2 : x = nn <;> simp_all⟩
set_option maxRecDepth 20000 in
set_option maxHeartbeats 1000000 in
theorem cX_iProbe {G : zh_G} {l : Launch} {f : Nat → va_E} {nn : Nat} {c : Nat} (hc : f c = .inr (2, [.int 0, .int 0])) (hc1 : zg_B G ≤ c) (hc2 : c < nn) {p1 b1 : Int32} (hb : narrow .boolean (.int b1) = .int b1) (hb2 : fits .boolean (.int b1) = true) : zc G l yX2_init cX2_init 3 none 2 [.ref c, .int p1, .int b1] (f, nn) 0 0 (fun o h' => o = none ∧ h' = (va_up f c (.inr (2, [.int p1, .int b1])), nn)) := by
  refine zc.of (by decide) (Nat.le_of_ble_eq_true rfl) ?_
  refine zv_aload_n dX2_init_0 rfl ?_
  refine zv_callIq (mc := 0) (ms := 0) zm_X2_1 zkyX5_init cX_iThing rfl rfl (Nat.le_of_ble_eq_true rfl) (by decide) dX2_init_1 ?_
  refine zv_aload_n dX2_init_4 rfl ?_
  refine zv_iload_n dX2_init_5 rfl ?_
  refine zv_putF (fs := [.int 0, .int 0]) zfw_X2_7_2 rfl (by simp [va_up, hc]) hc1 hc2 rfl rfl (by simp) dX2_init_6 ?_
  refine zv_aload_n dX2_init_9 rfl ?_
  refine zv_iload_n dX2_init_10 rfl ?_
  refine zv_putF (fs := [.int p1, .int 0]) zfw_X2_13_2 rfl (by simp [va_up, hc]) hc1 hc2 hb hb2 (by simp) dX2_init_11 ?_
  exact zv_return dX2_init_14 rfl ⟨rfl, by simp [bx_uu]⟩
set_option maxRecDepth 20000 in
set_option maxHeartbeats 1000000 in
theorem cX_iHeld {G : zh_G} {l : Launch} {f : Nat → va_E} {nn : Nat} {c : Nat} (hc : f c = .inr (0, [.int 0, .long 0, .null])) (hc1 : zg_B G ≤ c) (hc2 : c < nn) : zc G l yX0_init cX0_init 1 none 1 [.ref c] (f, nn) 0 0 (fun o h' => o = none ∧ h' = (va_up f c (.inr (0, [.int (-9), .long 0, .null])), nn)) := by
  refine zc.of (by decide) (Nat.le_of_ble_eq_true rfl) ?_
  refine zv_aload_n dX0_init_0 rfl ?_
  refine zv_objInit zo_X0_3 zo_i zo_c (Nat.le_of_ble_eq_true rfl) (by decide) dX0_init_1 ?_
  refine zv_aload_n dX0_init_4 rfl ?_
  refine zv_bipushv (v := (-9)) dX0_init_5 (by decide) ?_
  refine zv_put (fs := [.int 0, .long 0, .null]) zfw_X0_9_0 (by simp [va_up, hc]) hc1 hc2 rfl rfl (by simp) dX0_init_7 ?_
  exact zv_return dX0_init_10 rfl ⟨rfl, rfl⟩
set_option maxRecDepth 20000 in
set_option maxHeartbeats 1000000 in
theorem cX_iStep {G : zh_G} {l : Launch} {h : zh_H} {a : Nat} : zc G l yX4_init cX4_init 1 none 1 [.ref a] h 0 0 (fun o h' => o = none ∧ h' = h) := by
  refine zc.of (by decide) (Nat.le_of_ble_eq_true rfl) ?_
  refine zv_aload_n dX4_init_0 rfl ?_
  refine zv_objInit zo_X4_3 zo_i zo_c (Nat.le_of_ble_eq_true rfl) (by decide) dX4_init_1 ?_
  exact zv_return dX4_init_4 rfl ⟨rfl, rfl⟩
end
section
/-! the class's picture: what its cells hold when the reference's state is σ -/
def adr (ra pa : Nat → Nat) (t w : Int32) : Option Nat := if t = 2 then some (pa w.toNatClampNeg) else if t = 3 then some (ra w.toNatClampNeg) else none
def adp (ra pa : Nat → Nat) (K : Int32) (v : Int64) : Option Nat := if v = 0 then none else if K = 10 then some (ra (v - 1).toInt32.toNatClampNeg) else some (pa v.toInt32.toNatClampNeg)
def tw (R P : Nat) (t w : Int32) : Prop := t = 0 ∨ (t = 2 ∧ ∃ p : Nat, 1 ≤ p ∧ p ≤ P ∧ w = nI p) ∨ (t = 3 ∧ ∃ q : Nat, q < R ∧ w = nI q)
def pv (A : Nat → Nat → Int32) (R P : Nat) (K : Int32) (v : Int64) : Prop := (K < 8 → s_as K v = v) ∧ (¬ K < 8 → v = 0 ∨ (¬ K = 10 ∧ ∃ p : Nat, 1 ≤ p ∧ p ≤ P ∧ v = lN p ∧ (K = 9 → ¬ A 7 p = 0)) ∨ (K = 10 ∧ ∃ q : Nat, q < R ∧ v = lN (q + 1) ∧ A 9 q = 4))
def gv (A : Nat → Nat → Int32) (R P : Nat) (h k : Int32) (v : Int64) (w : Int32) : Prop := h = 0 ∨ (h = 1 ∧ (∃ j : Nat, j < 8 ∧ k = nI j) ∧ s_as k v = v) ∨ (h = 2 ∧ ∃ p : Nat, 1 ≤ p ∧ p ≤ P ∧ w = nI p) ∨ (h = 3 ∧ ∃ q : Nat, q < R ∧ w = nI q ∧ A 9 q = 4)
def rv (σ : sg) (R P q : Nat) : Prop := (∃ k : Nat, k ≤ 10 ∧ σ.2.2.1 9 q = nI k) ∧ (∃ s : Nat, s ≤ 16 ∧ σ.2.2.1 10 q = nI s) ∧ ∀ j : Nat, j < 16 → pv σ.2.2.1 R P (σ.2.2.1 9 q) (σ.2.2.2 (16 * q + j))
def stp (σ : sg) (k : Nat) : Prop := (∃ a : Nat, a < 10 ∧ σ.2.2.1 13 (5 * k + 1) = nI a) ∧ (∃ b : Nat, b < 10 ∧ σ.2.2.1 13 (5 * k + 3) = nI b) ∧ (∃ j : Nat, j < 8 ∧ σ.2.2.1 13 (5 * k + 4) = nI j)
def iv (σ : sg) (R P N D : Nat) : Prop := (σ.1 8 = nI R ∧ R ≤ 4000) ∧ (σ.1 6 = nI P ∧ P ≤ 40) ∧ (σ.1 12 = nI N ∧ N ≤ 12) ∧ (σ.1 14 = nI D ∧ D ≤ N) ∧ (∀ r : Nat, r < 10 → tw R P (σ.2.2.1 0 r) (σ.2.2.1 1 r)) ∧ gv σ.2.2.1 R P (σ.1 2) (σ.1 3) σ.2.1 (σ.1 5) ∧ (∀ q : Nat, q < R → rv σ R P q) ∧ (∀ k : Nat, k < 12 → stp σ k)
def hcell (ra pa : Nat → Nat) (σ : sg) : va_E := .inr (0, [.int (s_has σ), .long (s_val σ), va_rf (adr ra pa (σ.1 2) (σ.1 5))])
def cob (B : Nat) (σ : sg) : List Value := [.ref (B + 1), .ref (B + 2), .ref (B + 3), .ref (B + 4), .ref (B + 17), .int (σ.1 12), .int (σ.1 6), .int (σ.1 16)]
def rowp (G : zh_G) (f : Nat → va_E) (nn : Nat) (σ : sg) (ra pa : Nat → Nat) (q : Nat) : Prop := (zg_B G + 28 ≤ ra q ∧ ra q + 1 < nn) ∧
  (σ.2.2.1 9 q < 8 → f (ra q) = .inr (1, [.int (σ.2.2.1 9 q), .int (σ.2.2.1 10 q), .ref (ra q + 1)]) ∧ ∃ num : Nat → Int64, f (ra q + 1) = .inl (zg_c G 1, (σ.2.2.1 10 q).toNatClampNeg, .inr (.inl num)) ∧ ∀ j : Nat, j < (σ.2.2.1 10 q).toNatClampNeg → num j = σ.2.2.2 (16 * q + j)) ∧
  (¬ σ.2.2.1 9 q < 8 → f (ra q) = .inr (4, [.int (σ.2.2.1 9 q), .int (σ.2.2.1 10 q), .ref (ra q + 1)]) ∧ ∃ thg : Nat → Option Nat, f (ra q + 1) = .inl (zg_c G 3, (σ.2.2.1 10 q).toNatClampNeg, .inr (.inr (.inr (.inr thg)))) ∧ ∀ j : Nat, j < (σ.2.2.1 10 q).toNatClampNeg → thg j = adp ra pa (σ.2.2.1 9 q) (σ.2.2.2 (16 * q + j)))
def stpp (G : zh_G) (f : Nat → va_E) (σ : sg) (k : Nat) : Prop := ∃ oc : Int32, f (zg_B G + 5 + k) = .inr (3, [.int (σ.2.2.1 13 (5 * k)), .int (σ.2.2.1 13 (5 * k + 1)), .int (σ.2.2.1 13 (5 * k + 2)), .int (σ.2.2.1 13 (5 * k + 3)), .int (σ.2.2.1 13 (5 * k + 4)), .int oc]) ∧ (nI k < σ.1 12 → oc = if nI k < σ.1 14 then σ.2.2.1 15 k else -9)
def prbp (G : zh_G) (f : Nat → va_E) (nn : Nat) (σ : sg) (pa : Nat → Nat) (p : Nat) : Prop := (zg_B G + 28 ≤ pa p ∧ pa p < nn) ∧ f (pa p) = .inr (2, [.int (nI p), .int (σ.2.2.1 7 p)])
def cP (G : zh_G) (f : Nat → va_E) (nn : Nat) (σ : sg) (R P : Nat) (ra pa : Nat → Nat) : Prop :=
  zg_B G + 28 ≤ nn ∧ f (zg_B G) = .inr (5, cob (zg_B G) σ) ∧ (∃ rg : Nat → Option Nat, f (zg_B G + 1) = .inl (zg_c G 3, 10, .inr (.inr (.inr (.inr rg)))) ∧ ∀ r : Nat, r < 10 → rg r = adr ra pa (σ.2.2.1 0 r) (σ.2.2.1 1 r)) ∧ f (zg_B G + 2) = hcell ra pa σ ∧ (∃ (hk : Int32) (hv : Int64) (ht : Option Nat), f (zg_B G + 3) = .inr (0, [.int hk, .long hv, va_rf ht])) ∧
  f (zg_B G + 4) = .inl (zg_c G 4, 12, .inr (.inr (.inr (.inr (fun k => if k < 12 then some (zg_B G + 5 + k) else none))))) ∧ (∀ k : Nat, k < 12 → stpp G f σ k) ∧ f (zg_B G + 17) = .inl (zg_c G 0, 4, .inl (σ.2.2.1 17)) ∧ (∀ q : Nat, q < R → rowp G f nn σ ra pa q) ∧ (∀ p : Nat, 1 ≤ p → p ≤ P → prbp G f nn σ pa p) ∧
  (∀ q q' : Nat, q < R → q' < R → ra q = ra q' → q = q') ∧ (∀ p p' : Nat, 1 ≤ p → p ≤ P → 1 ≤ p' → p' ≤ P → pa p = pa p' → p = p')
/-- what a method of the class leaves: its answer, the picture, the reference's cells untouched -/
def cN (G : zh_G) (f0 : Nat → va_E) (nn : Nat) (σ : sg) (R P : Nat) (ra pa : Nat → Nat) (v : Option Value) : Option Value → zh_H → Prop := fun o h' => o = v ∧ h'.2 = nn ∧ cP G h'.1 nn σ R P ra pa ∧ ∀ a : Nat, zg_B G + 18 ≤ a → a < zg_B G + 28 → h'.1 a = f0 a
theorem vne {f : Nat → va_E} {a b : Nat} {e : va_E} (h : ¬ b = a) : va_up f a e b = f b := by simp [va_up, h]
theorem veq {f : Nat → va_E} {a : Nat} {e : va_E} : va_up f a e a = e := by simp [va_up]
theorem rowp_ne {G : zh_G} {f : Nat → va_E} {nn : Nat} {σ : sg} {ra pa : Nat → Nat} {q x : Nat} {e : va_E} (h : rowp G f nn σ ra pa q) (h1 : ¬ ra q = x) (h2 : ¬ ra q + 1 = x) : rowp G (va_up f x e) nn σ ra pa q := by
  unfold rowp at *
  rw [vne h1, vne h2]
  exact h
theorem prbp_ne {G : zh_G} {f : Nat → va_E} {nn : Nat} {σ : sg} {pa : Nat → Nat} {p x : Nat} {e : va_E} (h : prbp G f nn σ pa p) (h1 : ¬ pa p = x) : prbp G (va_up f x e) nn σ pa p := by
  unfold prbp at *
  rw [vne h1]
  exact h
theorem stpp_ne {G : zh_G} {f : Nat → va_E} {σ : sg} {k x : Nat} {e : va_E} (h : stpp G f σ k) (h1 : ¬ zg_B G + 5 + k = x) : stpp G (va_up f x e) σ k := by
  unfold stpp at *
  rw [vne h1]
  exact h
section PIC
variable {G : zh_G} {f : Nat → va_E} {nn : Nat} {σ : sg} {R P : Nat} {ra pa : Nat → Nat}
/-- a write at one of the fixed cells leaves rows, probes and steps -/
theorem cP_low (h : cP G f nn σ R P ra pa) {x : Nat} (hx : x < zg_B G + 28) (e : va_E) : (∀ q : Nat, q < R → rowp G (va_up f x e) nn σ ra pa q) ∧ (∀ p : Nat, 1 ≤ p → p ≤ P → prbp G (va_up f x e) nn σ pa p) := by
  obtain ⟨h1, h2, h3, h4, h5, h6, h7, h8, h9, h10, h11⟩ := h
  refine ⟨fun q hq => rowp_ne (h9 q hq) ?_ ?_, fun p hp1 hp2 => prbp_ne (h10 p hp1 hp2) ?_⟩
  · have := (h9 q hq).1; omega
  · have := (h9 q hq).1; omega
  · have := (h10 p hp1 hp2).1; omega
theorem cP_hand (h : cP G f nn σ R P ra pa) (a : Int32) (b : Int64) (c : Option Nat) : cP G (va_up f (zg_B G + 3) (.inr (0, [.int a, .long b, va_rf c]))) nn σ R P ra pa := by
  obtain ⟨l1, l2⟩ := cP_low h (x := zg_B G + 3) (by omega) (.inr (0, [.int a, .long b, va_rf c]))
  obtain ⟨h1, h2, h3, h4, h5, h6, h7, h8, h9, h10, h11⟩ := h
  refine ⟨h1, by rw [vne (by omega)]; exact h2, h3.imp (fun rg h => ⟨by rw [vne (by omega)]; exact h.1, h.2⟩), by rw [vne (by omega)]; exact h4, ⟨a, b, c, veq⟩, by rw [vne (by omega)]; exact h6, fun k hk => stpp_ne (h7 k hk) (by omega), by rw [vne (by omega)]; exact h8, l1, l2, h11⟩
theorem rowp_sg {σ2 : sg} {q : Nat} (hA : σ2.2.2 = σ.2.2) (h : rowp G f nn σ ra pa q) : rowp G f nn σ2 ra pa q := by
  unfold rowp at *; rw [hA]; exact h
theorem prbp_sg {σ2 : sg} {p : Nat} (hA : σ2.2.2 = σ.2.2) (h : prbp G f nn σ pa p) : prbp G f nn σ2 pa p := by
  unfold prbp at *; rw [hA]; exact h
theorem stpp_sg {σ2 : sg} {k : Nat} (hA : σ2.2.2 = σ.2.2) (h12 : σ2.1 12 = σ.1 12) (h14 : σ2.1 14 = σ.1 14) (h : stpp G f σ k) : stpp G f σ2 k := by
  unfold stpp at *; rw [hA, h12, h14]; exact h
theorem cP_gauge (h : cP G f nn σ R P ra pa) {σ2 : sg} (hA : σ2.2.2 = σ.2.2) (h12 : σ2.1 12 = σ.1 12) (h6' : σ2.1 6 = σ.1 6) (h16 : σ2.1 16 = σ.1 16) (h14 : σ2.1 14 = σ.1 14) : cP G (va_up f (zg_B G + 2) (hcell ra pa σ2)) nn σ2 R P ra pa := by
  obtain ⟨l1, l2⟩ := cP_low h (x := zg_B G + 2) (by omega) (hcell ra pa σ2)
  obtain ⟨h1, h2, h3, h4, h5, h6, h7, h8, h9, h10, h11⟩ := h
  refine ⟨h1, by rw [vne (by omega), h2]; unfold cob; rw [h12, h6', h16], h3.imp (fun rg h => ⟨by rw [vne (by omega)]; exact h.1, by rw [hA]; exact h.2⟩), veq, by rw [vne (by omega)]; exact h5, by rw [vne (by omega)]; exact h6, fun k hk => stpp_sg hA h12 h14 (stpp_ne (h7 k hk) (by omega)), by rw [vne (by omega), hA]; exact h8, fun q hq => rowp_sg hA (l1 q hq), fun p hp1 hp2 => prbp_sg hA (l2 p hp1 hp2), h11⟩
/-- numbers of the reference alone (found.. and the like) -/
theorem cP_sg (h : cP G f nn σ R P ra pa) {σ2 : sg} (hA : σ2.2.2 = σ.2.2) (h12 : σ2.1 12 = σ.1 12) (h6' : σ2.1 6 = σ.1 6) (h16 : σ2.1 16 = σ.1 16) (h14 : σ2.1 14 = σ.1 14) (h2' : σ2.1 2 = σ.1 2) (h3' : σ2.1 3 = σ.1 3) (h5' : σ2.1 5 = σ.1 5) (hv : σ2.2.1 = σ.2.1) : cP G f nn σ2 R P ra pa := by
  have hh : hcell ra pa σ2 = hcell ra pa σ := by unfold hcell s_has s_val xF xS; rw [hA, h2', h3', h5', hv]
  obtain ⟨h1, h2, h3, h4, h5, h6, h7, h8, h9, h10, h11⟩ := h
  refine ⟨h1, by rw [h2]; unfold cob; rw [h12, h6', h16], by rw [hA]; exact h3, by rw [hh]; exact h4, h5, h6, fun k hk => stpp_sg hA h12 h14 (h7 k hk), by rw [hA]; exact h8, fun q hq => rowp_sg hA (h9 q hq), fun p hp1 hp2 => prbp_sg hA (h10 p hp1 hp2), h11⟩
end PIC
end
section
section PIC2
variable {G : zh_G} {f f2 : Nat → va_E} {nn : Nat} {σ σ2 : sg} {R P : Nat} {ra pa : Nat → Nat}
theorem rowp_cg {q : Nat} (e1 : f2 (ra q) = f (ra q)) (e2 : f2 (ra q + 1) = f (ra q + 1)) (h9 : σ2.2.2.1 9 q = σ.2.2.1 9 q) (h10 : σ2.2.2.1 10 q = σ.2.2.1 10 q) (hp : ∀ j : Nat, j < (σ.2.2.1 10 q).toNatClampNeg → σ2.2.2.2 (16 * q + j) = σ.2.2.2 (16 * q + j)) (h : rowp G f nn σ ra pa q) : rowp G f2 nn σ2 ra pa q := by
  unfold rowp at *
  rw [e1, e2, h9, h10]
  refine ⟨h.1, fun hK => ?_, fun hK => ?_⟩
  · obtain ⟨a, num, b, c⟩ := h.2.1 hK
    exact ⟨a, num, b, fun j hj => by rw [hp j hj]; exact c j hj⟩
  · obtain ⟨a, num, b, c⟩ := h.2.2 hK
    exact ⟨a, num, b, fun j hj => by rw [hp j hj]; exact c j hj⟩
/-- fixed cells said anew, the rest as it was -/
theorem cP_gen (h : cP G f nn σ R P ra pa) (hB : f2 (zg_B G) = .inr (5, cob (zg_B G) σ2)) (h1 : ∃ rg : Nat → Option Nat, f2 (zg_B G + 1) = .inl (zg_c G 3, 10, .inr (.inr (.inr (.inr rg)))) ∧ ∀ r : Nat, r < 10 → rg r = adr ra pa (σ2.2.2.1 0 r) (σ2.2.2.1 1 r)) (h2 : f2 (zg_B G + 2) = hcell ra pa σ2) (h3 : ∃ (hk : Int32) (hv : Int64) (ht : Option Nat), f2 (zg_B G + 3) = .inr (0, [.int hk, .long hv, va_rf ht])) (h4 : f2 (zg_B G + 4) = f (zg_B G + 4)) (h5 : ∀ k : Nat, k < 12 → stpp G f2 σ2 k) (h17 : f2 (zg_B G + 17) = .inl (zg_c G 0, 4, .inl (σ2.2.2.1 17))) (hhi : ∀ a : Nat, zg_B G + 28 ≤ a → f2 a = f a) (h9 : σ2.2.2.1 9 = σ.2.2.1 9) (h10 : σ2.2.2.1 10 = σ.2.2.1 10) (h7 : σ2.2.2.1 7 = σ.2.2.1 7) (hp : σ2.2.2.2 = σ.2.2.2) : cP G f2 nn σ2 R P ra pa := by
  obtain ⟨k1, k2, k3, k4, k5, k6, k7, k8, k9, k10, k11⟩ := h
  refine ⟨k1, hB, h1, h2, h3, h4.trans k6, h5, h17, fun q hq => ?_, fun p hp1 hp2 => ?_, k11⟩
  · have hr := k9 q hq
    exact rowp_cg (hhi _ hr.1.1) (hhi _ (by have := hr.1.1; omega)) (by rw [h9]) (by rw [h10]) (fun j _ => by rw [hp]) hr
  · have hr := k10 p hp1 hp2
    unfold prbp at *
    rw [hhi _ hr.1.1, h7]; exact hr
theorem row_inr {q : Nat} (h : rowp G f nn σ ra pa q) : ∃ x, f (ra q) = .inr x := by
  by_cases hK : σ.2.2.1 9 q < 8
  · exact ⟨_, (h.2.1 hK).1⟩
  · exact ⟨_, (h.2.2 hK).1⟩
theorem row_inl {q : Nat} (h : rowp G f nn σ ra pa q) : ∃ x, f (ra q + 1) = .inl x := by
  by_cases hK : σ.2.2.1 9 q < 8
  · obtain ⟨-, n, hn, -⟩ := h.2.1 hK; exact ⟨_, hn⟩
  · obtain ⟨-, n, hn, -⟩ := h.2.2 hK; exact ⟨_, hn⟩
theorem inr_ne {a b : Nat} {x y} (ha : f a = .inr x) (hb : f b = .inl y) : ¬ a = b := fun e => by rw [e, hb] at ha; cases ha
/-- a place of row q written -/
theorem cP_row (h : cP G f nn σ R P ra pa) {q j : Nat} (hq : q < R) (hj : j < 16) (hsz : ∀ q : Nat, q < R → (σ.2.2.1 10 q).toNatClampNeg ≤ 16) {e : va_E} {v : Int64} (hr : rowp G (va_up f (ra q + 1) e) nn (sp σ (16 * q + j) v) ra pa q) : cP G (va_up f (ra q + 1) e) nn (sp σ (16 * q + j) v) R P ra pa := by
  obtain ⟨k1, k2, k3, k4, k5, k6, k7, k8, k9, k10, k11, k12⟩ := h
  have hq0 := k9 q hq
  have hb := hq0.1
  obtain ⟨xl, hxl⟩ := row_inl hq0
  refine ⟨k1, by rw [vne (by omega)]; exact k2, k3.imp (fun rg h => ⟨by rw [vne (by omega)]; exact h.1, h.2⟩), by rw [vne (by omega)]; exact k4, k5.imp (fun a h => h.imp (fun b h => h.imp (fun c h => by rw [vne (by omega)]; exact h))), by rw [vne (by omega)]; exact k6, fun k hk => stpp_ne (k7 k hk) (by omega), by rw [vne (by omega)]; exact k8, fun q2 hq2 => ?_, fun p hp1 hp2 => ?_, k11, k12⟩
  · by_cases hqq : q2 = q
    · subst hqq; exact hr
    · have hr2 := k9 q2 hq2
      obtain ⟨xr, hxr⟩ := row_inr hr2
      refine rowp_cg (σ := σ) (vne (inr_ne hxr hxl)) (vne (fun e => hqq (k11 q2 q hq2 hq (by omega)))) rfl rfl (fun j2 hj2 => ?_) hr2
      have := hsz q2 hq2
      show vp_updL _ _ _ _ = _
      unfold vp_updL
      rw [if_neg (by omega)]
  · have hr2 := k10 p hp1 hp2
    exact prbp_ne hr2 (inr_ne hr2.2 hxl)
theorem cP_num (h : cP G f nn σ R P ra pa) {q j : Nat} (hq : q < R) (hK : σ.2.2.1 9 q < 8) (hj : j < (σ.2.2.1 10 q).toNatClampNeg) (hsz : ∀ q : Nat, q < R → (σ.2.2.1 10 q).toNatClampNeg ≤ 16) {num : Nat → Int64} (hn : f (ra q + 1) = .inl (zg_c G 1, (σ.2.2.1 10 q).toNatClampNeg, .inr (.inl num))) (v : Int64) : cP G (va_up f (ra q + 1) (.inl (zg_c G 1, (σ.2.2.1 10 q).toNatClampNeg, .inr (.inl (vp_updL num j v))))) nn (sp σ (16 * q + j) v) R P ra pa := by
  have hq0 := h.2.2.2.2.2.2.2.2.1 q hq
  obtain ⟨a, num2, b, c⟩ := hq0.2.1 hK
  have e : num2 = num := by rw [hn] at b; injection b with b; injection b with _ b; injection b with _ b; injection b with b; injection b with b; exact b.symm
  subst e
  refine cP_row h hq (by have := hsz q hq; omega) hsz ⟨hq0.1, fun _ => ⟨?_, vp_updL num2 j v, ?_, fun j2 hj2 => ?_⟩, fun hn2 => absurd hK hn2⟩
  · rw [vne (by omega)]; exact a
  · exact veq
  · show vp_updL num2 j v j2 = vp_updL σ.2.2.2 (16 * q + j) v (16 * q + j2)
    unfold vp_updL
    by_cases hjj : j2 = j
    · rw [if_pos hjj, if_pos (by omega)]
    · rw [if_neg hjj, if_neg (by omega)]; exact c j2 hj2
theorem cP_thg (h : cP G f nn σ R P ra pa) {q j : Nat} (hq : q < R) (hK : ¬ σ.2.2.1 9 q < 8) (hj : j < (σ.2.2.1 10 q).toNatClampNeg) (hsz : ∀ q : Nat, q < R → (σ.2.2.1 10 q).toNatClampNeg ≤ 16) {thg : Nat → Option Nat} (hn : f (ra q + 1) = .inl (zg_c G 3, (σ.2.2.1 10 q).toNatClampNeg, .inr (.inr (.inr (.inr thg))))) {v : Int64} {x : Option Nat} (hx : x = adp ra pa (σ.2.2.1 9 q) v) : cP G (va_up f (ra q + 1) (.inl (zg_c G 3, (σ.2.2.1 10 q).toNatClampNeg, .inr (.inr (.inr (.inr (va_up thg j x))))))) nn (sp σ (16 * q + j) v) R P ra pa := by
  have hq0 := h.2.2.2.2.2.2.2.2.1 q hq
  obtain ⟨a, num2, b, c⟩ := hq0.2.2 hK
  have e : num2 = thg := by rw [hn] at b; injection b with b; injection b with _ b; injection b with _ b; injection b with b; injection b with b; injection b with b; injection b with b; exact b.symm
  subst e
  refine cP_row h hq (by have := hsz q hq; omega) hsz ⟨hq0.1, fun hn2 => absurd hn2 hK, fun _ => ⟨?_, va_up num2 j x, ?_, fun j2 hj2 => ?_⟩⟩
  · rw [vne (by omega)]; exact a
  · exact veq
  · show va_up num2 j x j2 = adp ra pa (σ.2.2.1 9 q) (vp_updL σ.2.2.2 (16 * q + j) v (16 * q + j2))
    unfold vp_updL va_up
    by_cases hjj : j2 = j
    · rw [if_pos hjj, if_pos (by omega)]; exact hx
    · rw [if_neg hjj, if_neg (by omega)]; exact c j2 hj2
/-- a rack said anew -/
theorem cP_rack (h : cP G f nn σ R P ra pa) {r : Nat} {t w : Int32} {rg : Nat → Option Nat} (hrg : f (zg_B G + 1) = .inl (zg_c G 3, 10, .inr (.inr (.inr (.inr rg))))) {x : Option Nat} (hx : x = adr ra pa t w) (hA : σ2.2.2 = (va_up (va_up σ.2.2.1 0 (upd (σ.2.2.1 0) r t)) 1 (upd (σ.2.2.1 1) r w), σ.2.2.2)) (h1' : σ2.1 = σ.1) (hv : σ2.2.1 = σ.2.1) : cP G (va_up f (zg_B G + 1) (.inl (zg_c G 3, 10, .inr (.inr (.inr (.inr (va_up rg r x))))))) nn σ2 R P ra pa := by
  have h0 := h
  obtain ⟨k1, k2, ⟨rg2, k3, k3b⟩, k4, k5, k6, k7, k8, k9, k10, k11, k12⟩ := h
  have e : rg2 = rg := by rw [hrg] at k3; injection k3 with b; injection b with _ b; injection b with _ b; injection b with b; injection b with b; injection b with b; injection b with b; exact b.symm
  subst e
  have hA1 : σ2.2.2.1 = va_up (va_up σ.2.2.1 0 (upd (σ.2.2.1 0) r t)) 1 (upd (σ.2.2.1 1) r w) := by rw [hA]
  refine cP_gen h0 (by rw [vne (by omega), k2]; unfold cob; rw [h1']) ⟨_, veq, fun r2 hr2 => ?_⟩ (by rw [vne (by omega), k4]; unfold hcell s_has s_val xF xS; rw [h1', hv, hA1]; rfl) (k5.imp (fun a h => h.imp (fun b h => h.imp (fun c h => by rw [vne (by omega)]; exact h)))) (vne (by omega)) (fun k hk => ?_) (by rw [vne (by omega), k8, hA1]; rfl) (fun a ha => vne (by omega)) (by rw [hA1]; rfl) (by rw [hA1]; rfl) (by rw [hA1]; rfl) (by rw [hA])
  · rw [hA1]
    show va_up rg2 r x r2 = adr ra pa (upd (σ.2.2.1 0) r t r2) (upd (σ.2.2.1 1) r w r2)
    unfold va_up upd
    by_cases hrr : r2 = r
    · rw [if_pos hrr, if_pos hrr, if_pos hrr]; exact hx
    · rw [if_neg hrr, if_neg hrr, if_neg hrr]; exact k3b r2 hr2
  · have := stpp_ne (e := .inl (zg_c G 3, 10, .inr (.inr (.inr (.inr (va_up rg2 r x)))))) (k7 k hk) (x := zg_B G + 1) (by omega)
    unfold stpp at *
    rw [hA1, h1']; exact this
end PIC2
end
section
/-! the class's methods on a thing, by the reference's words for it -/
theorem adr_0 (ra pa : Nat → Nat) (w : Int32) : adr ra pa 0 w = none := rfl
theorem adr_1 (ra pa : Nat → Nat) (w : Int32) : adr ra pa 1 w = none := rfl
theorem adr_2 (ra pa : Nat → Nat) {p : Nat} (hp : p < 2 ^ 31) : adr ra pa 2 (nI p) = some (pa p) := by
  unfold adr; rw [if_pos rfl, nI_clamp hp]
theorem adr_3 (ra pa : Nat → Nat) {q : Nat} (hq : q < 2 ^ 31) : adr ra pa 3 (nI q) = some (ra q) := by
  unfold adr; rw [if_neg (by decide), if_pos rfl, nI_clamp hq]
section THG
variable {G : zh_G} {l : Launch} {f : Nat → va_E} {nn : Nat} {σ : sg} {R P N D : Nat} {ra pa : Nat → Nat}
theorem iv_sz (hi : iv σ R P N D) : ∀ q : Nat, q < R → (σ.2.2.1 10 q).toNatClampNeg ≤ 16 := by
  intro q hq
  obtain ⟨-, ⟨s, hs, e⟩, -⟩ := hi.2.2.2.2.2.2.1 q hq
  rw [e, nI_clamp (by omega)]; exact hs
/-- row q as the low rows want it: of numbers -/
theorem vwN (h : cP G f nn σ R P ra pa) (hi : iv σ R P N D) {q : Nat} (hq : q < R) (hK : σ.2.2.1 9 q < 8) : ∃ (s : Nat) (num : Nat → Int64), s ≤ 16 ∧ σ.2.2.1 10 q = nI s ∧ f (ra q) = .inr (1, [.int (σ.2.2.1 9 q), .int (nI s), .ref (ra q + 1)]) ∧ f (ra q + 1) = .inl (zg_c G 1, s, .inr (.inl num)) ∧ (zg_B G ≤ ra q ∧ ra q < nn ∧ zg_B G ≤ ra q + 1 ∧ ra q + 1 < nn) ∧ (∀ j : Nat, j < s → num j = σ.2.2.2 (16 * q + j)) ∧ zg_B G + 28 ≤ ra q := by
  obtain ⟨-, ⟨s, hs, e⟩, -⟩ := hi.2.2.2.2.2.2.1 q hq
  have hr := h.2.2.2.2.2.2.2.2.1 q hq
  obtain ⟨a, num, b, c⟩ := hr.2.1 hK
  rw [e, nI_clamp (by omega)] at b c
  rw [e] at a
  have := hr.1
  exact ⟨s, num, hs, e, a, b, ⟨by omega, by omega, by omega, by omega⟩, c, this.1⟩
theorem vwT (h : cP G f nn σ R P ra pa) (hi : iv σ R P N D) {q : Nat} (hq : q < R) (hK : ¬ σ.2.2.1 9 q < 8) : ∃ (s : Nat) (thg : Nat → Option Nat), s ≤ 16 ∧ σ.2.2.1 10 q = nI s ∧ f (ra q) = .inr (4, [.int (σ.2.2.1 9 q), .int (nI s), .ref (ra q + 1)]) ∧ f (ra q + 1) = .inl (zg_c G 3, s, .inr (.inr (.inr (.inr thg)))) ∧ (zg_B G ≤ ra q ∧ ra q < nn ∧ zg_B G ≤ ra q + 1 ∧ ra q + 1 < nn) ∧ (∀ j : Nat, j < s → thg j = adp ra pa (σ.2.2.1 9 q) (σ.2.2.2 (16 * q + j))) ∧ zg_B G + 28 ≤ ra q := by
  obtain ⟨-, ⟨s, hs, e⟩, -⟩ := hi.2.2.2.2.2.2.1 q hq
  have hr := h.2.2.2.2.2.2.2.2.1 q hq
  obtain ⟨a, num, b, c⟩ := hr.2.2 hK
  rw [e, nI_clamp (by omega)] at b c
  rw [e] at a
  have := hr.1
  exact ⟨s, num, hs, e, a, b, ⟨by omega, by omega, by omega, by omega⟩, c, this.1⟩
theorem vwP (h : cP G f nn σ R P ra pa) {p : Nat} (h1 : 1 ≤ p) (h2 : p ≤ P) : f (pa p) = .inr (2, [.int (nI p), .int (σ.2.2.1 7 p)]) ∧ zg_B G ≤ pa p ∧ pa p < nn ∧ zg_B G + 28 ≤ pa p := by
  have hr := h.2.2.2.2.2.2.2.2.2.1 p h1 h2
  have := hr.1
  exact ⟨hr.2, by omega, by omega, this.1⟩
theorem xk {q : Nat} (hq : q < 5000) : xK σ (nI q) = σ.2.2.1 9 q := by unfold xK; rw [nI_clamp (by omega)]
theorem xs {q : Nat} (hq : q < 5000) : xS σ (nI q) = σ.2.2.1 10 q := by unfold xS; rw [nI_clamp (by omega)]
theorem xf {q : Nat} (hq : q < 5000) : xF σ (nI q) = σ.2.2.1 7 q := by unfold xF; rw [nI_clamp (by omega)]
theorem xp {q j : Nat} (hq : q < 5000) (hj : j < 16) : xP σ (nI q) (nI j) = σ.2.2.2 (16 * q + j) := by unfold xP; rw [ix16 hq hj]
theorem gF_0 (w i : Int32) : s_gF σ 0 w i = 1 := rfl
theorem gF_2 (w i : Int32) : s_gF σ 2 w i = 2 := rfl
theorem gF_3 (w i : Int32) : s_gF σ 3 w i = if s_out i (xS σ w) = true then 3 else 0 := rfl
/-- fault of a thing that is no row -/
theorem u_rowF (h : cP G f nn σ R P ra pa) (hi : iv σ R P N D) {t w : Int32} (ht : tw R P t w) : zc G l yX7_rowFault cX7_rowFault 1 (some .int) 0 [va_rf (adr ra pa t w)] (f, nn) 0 0 (fun o h' => o = some (.int (if t = 0 then 1 else if ¬ t = 3 then 2 else 0)) ∧ h' = (f, nn)) := by
  rcases ht with rfl | ⟨rfl, p, hp1, hp2, rfl⟩ | ⟨rfl, q, hq, rfl⟩
  · exact cX_rowF0
  · have := hi.2.1.2
    rw [adr_2 ra pa (by omega)]
    obtain ⟨e, b1, b2, -⟩ := vwP h hp1 hp2
    exact cX_rowFP e b1 b2
  · have := hi.1.2
    rw [adr_3 ra pa (by omega)]
    by_cases hK : σ.2.2.1 9 q < 8
    · obtain ⟨s, num, hs, -, e, e2, ⟨b1, b2, b3, b4⟩, -⟩ := vwN h hi hq hK
      exact cX_rowFN e e2 b1 b2 b3 b4 hs
    · obtain ⟨s, num, hs, -, e, e2, ⟨b1, b2, b3, b4⟩, -⟩ := vwT h hi hq hK
      exact cX_rowFT e e2 b1 b2 b3 b4 hs
theorem u_plc (h : cP G f nn σ R P ra pa) (hi : iv σ R P N D) {t w : Int32} (ht : tw R P t w) : zc G l yX7_placesOf cX7_placesOf 2 (some .int) 0 [va_rf (adr ra pa t w)] (f, nn) 0 0 (fun o h' => o = some (.int (if t = 3 then xS σ w else 0)) ∧ h' = (f, nn)) := by
  rcases ht with rfl | ⟨rfl, p, hp1, hp2, rfl⟩ | ⟨rfl, q, hq, rfl⟩
  · exact cX_plc0
  · have := hi.2.1.2
    rw [adr_2 ra pa (by omega)]
    obtain ⟨e, b1, b2, -⟩ := vwP h hp1 hp2
    exact cX_plcP e b1 b2
  · have := hi.1.2
    rw [adr_3 ra pa (by omega), if_pos rfl, xs (by omega)]
    by_cases hK : σ.2.2.1 9 q < 8
    · obtain ⟨s, num, hs, es, e, e2, ⟨b1, b2, b3, b4⟩, -⟩ := vwN h hi hq hK
      rw [es]; exact cX_plcN e e2 b1 b2 b3 b4 hs
    · obtain ⟨s, num, hs, es, e, e2, ⟨b1, b2, b3, b4⟩, -⟩ := vwT h hi hq hK
      rw [es]; exact cX_plcT e e2 b1 b2 b3 b4 hs
theorem u_plF (h : cP G f nn σ R P ra pa) (hi : iv σ R P N D) {t w i : Int32} (ht : tw R P t w) : zc G l yX7_placeFault cX7_placeFault 3 (some .int) 1 [va_rf (adr ra pa t w), .int i] (f, nn) 0 0 (fun o h' => o = some (.int (s_gF σ t w i)) ∧ h' = (f, nn)) := by
  rcases ht with rfl | ⟨rfl, p, hp1, hp2, rfl⟩ | ⟨rfl, q, hq, rfl⟩
  · exact cX_plF0
  · have := hi.2.1.2
    rw [adr_2 ra pa (by omega)]
    obtain ⟨e, b1, b2, -⟩ := vwP h hp1 hp2
    exact cX_plFP e b1 b2
  · have := hi.1.2
    rw [adr_3 ra pa (by omega), gF_3, xs (by omega)]
    by_cases hK : σ.2.2.1 9 q < 8
    · obtain ⟨s, num, hs, es, e, e2, ⟨b1, b2, b3, b4⟩, -⟩ := vwN h hi hq hK
      rw [es, co_out i hs]
      by_cases hco : co i (nI s) = true
      · rw [if_pos hco]; exact cX_plFNo e e2 b1 b2 b3 b4 hs hco
      · rw [if_neg hco]; exact cX_plFNi e e2 b1 b2 b3 b4 hs (by simpa using hco)
    · obtain ⟨s, num, hs, es, e, e2, ⟨b1, b2, b3, b4⟩, -⟩ := vwT h hi hq hK
      rw [es, co_out i hs]
      by_cases hco : co i (nI s) = true
      · rw [if_pos hco]; exact cX_plFTo e e2 b1 b2 b3 b4 hs hco
      · rw [if_neg hco]; exact cX_plFTi e e2 b1 b2 b3 b4 hs (by simpa using hco)
theorem lN_nI {p : Nat} : (lN p).toInt32 = nI p := lN_i p
theorem adp_0 (K : Int32) : adp ra pa K 0 = none := rfl
theorem lN_ne0 {p : Nat} (h1 : 1 ≤ p) (h2 : p < 2 ^ 31) : ¬ lN p = 0 := by
  rw [show (0 : Int64) = lN 0 from rfl, lN_eq h2 (by decide)]; omega
theorem adp_p {K : Int32} {p : Nat} (hK : ¬ K = 10) (h1 : 1 ≤ p) (h2 : p < 2 ^ 31) : adp ra pa K (lN p) = some (pa p) := by
  unfold adp; rw [if_neg (lN_ne0 h1 h2), if_neg hK, lN_nI, nI_clamp h2]
theorem lN_pred {q : Nat} : lN (q + 1) - 1 = lN q := by
  rw [show (1 : Int64) = lN 1 from rfl, lN_sub (by omega)]; rfl
theorem adp_q {q : Nat} (h2 : q + 1 < 2 ^ 31) : adp ra pa 10 (lN (q + 1)) = some (ra q) := by
  unfold adp; rw [if_neg (lN_ne0 (by omega) h2), if_pos rfl, lN_pred, lN_nI, nI_clamp (by omega)]
/-- getPlace into a Held at c (the gauge or the hand) -/
theorem u_get (h : cP G f nn σ R P ra pa) (hi : iv σ R P N D) {t w i : Int32} (ht : tw R P t w) {c : Nat} {k0 a0 t0 : Value} (hc : f c = .inr (0, [k0, a0, t0])) (hc1 : zg_B G ≤ c) (hc2 : c < zg_B G + 28) : zc G l yX7_getPlace cX7_getPlace 6 (some .int) 2 [va_rf (adr ra pa t w), .int i, .ref c] (f, nn) 0 0 (fun o h' => o = some (.int (s_gF σ t w i)) ∧ h' = (if s_gF σ t w i = 0 then va_up f c (hcell ra pa (s_gets σ w i)) else f, nn)) := by
  have hcn : c < nn := by have := h.1; omega
  rcases ht with rfl | ⟨rfl, p, hp1, hp2, rfl⟩ | ⟨rfl, q, hq, rfl⟩
  · exact cX_get0 hc hc1 hcn
  · have := hi.2.1.2
    rw [adr_2 ra pa (by omega)]
    obtain ⟨e, b1, b2, -⟩ := vwP h hp1 hp2
    exact cX_getP hc hc1 hcn e b1 b2
  · have hR := hi.1.2
    rw [adr_3 ra pa (by omega), gF_3, xs (by omega)]
    obtain ⟨hk10, -, hpv⟩ := hi.2.2.2.2.2.2.1 q hq
    by_cases hK : σ.2.2.1 9 q < 8
    · obtain ⟨s, num, hs, es, e, e2, ⟨b1, b2, b3, b4⟩, hnum, -⟩ := vwN h hi hq hK
      rw [es, co_out i hs]
      by_cases hco : co i (nI s) = true
      · rw [if_pos hco]; exact cX_getNo hc hc1 hcn e e2 b1 b2 b3 b4 hs hco
      · have hcf : co i (nI s) = false := by simpa using hco
        obtain ⟨j, hj, rfl⟩ := vp_in_of (co_in hs hcf) (by omega)
        rw [if_neg hco, if_pos rfl]
        have hz : hcell ra pa (s_gets σ (nI q) (nI j)) = .inr (0, [.int (σ.2.2.1 9 q), .long (s_as (σ.2.2.1 9 q) (num (nI j).toNatClampNeg)), .null]) := by
          rw [nI_clamp (by omega), hnum j hj, (hpv j (by omega)).1 hK]
          unfold s_gets
          rw [xk (by omega), if_pos hK, xp (by omega) (by omega)]
          rfl
        rw [hz]; exact cX_getNi hc hc1 hcn e e2 b1 b2 b3 b4 hs hcf
    · obtain ⟨s, thg, hs, es, e, e2, ⟨b1, b2, b3, b4⟩, hthg, -⟩ := vwT h hi hq hK
      rw [es, co_out i hs]
      by_cases hco : co i (nI s) = true
      · rw [if_pos hco]; exact cX_getTo hc hc1 hcn e e2 b1 b2 b3 b4 hs hco
      · have hcf : co i (nI s) = false := by simpa using hco
        obtain ⟨j, hj, rfl⟩ := vp_in_of (co_in hs hcf) (by omega)
        rw [if_neg hco, if_pos rfl]
        have ht0 := hthg j hj
        rw [← show (nI j).toNatClampNeg = j from nI_clamp (by omega)] at ht0
        have hsg : s_gets σ (nI q) (nI j) = si (si σ 2 (if σ.2.2.2 (16 * q + j) = 0 then 0 else if σ.2.2.1 9 q = 10 then 3 else 2)) 5 (if σ.2.2.1 9 q = 10 then σ.2.2.2 (16 * q + j) - 1 else σ.2.2.2 (16 * q + j)).toInt32 := by
          unfold s_gets
          rw [xk (by omega), if_neg hK, xp (by omega) (by omega)]
        rw [hsg]
        rw [nI_clamp (show j < 2 ^ 31 by omega)] at ht0
        rcases (hpv j (by omega)).2 hK with hv | ⟨hk, p, hp1, hp2, hv, -⟩ | ⟨hk, q2, hq2, hv, h4⟩
        · rw [hv] at ht0 ⊢
          rw [if_pos rfl]
          refine (?_ : zc G l _ _ _ _ _ _ _ _ _ (fun o h' => o = some (.int 0) ∧ h' = (va_up f c (.inr (0, [.int (-9), .long 0, .null])), nn)))
          exact cX_getTi0 hc hc1 hcn e e2 b1 b2 b3 b4 hs hcf (by rw [nI_clamp (by omega)]; exact ht0)
        · have hP := hi.2.1.2
          rw [hv] at ht0 ⊢
          rw [adp_p hk hp1 (by omega)] at ht0
          rw [if_neg (lN_ne0 hp1 (by omega)), if_neg hk, if_neg hk, lN_nI]
          obtain ⟨g1, g2, g3, g4⟩ := vwP h hp1 hp2
          have hz : hcell ra pa (si (si σ 2 2) 5 (nI p)) = .inr (0, [.int (if σ.2.2.1 7 p = 0 then 8 else 9), .long (nI p).toInt64, .ref (pa p)]) := by
            unfold hcell
            rw [show (si (si σ 2 2) 5 (nI p)).1 2 = 2 from rfl, show (si (si σ 2 2) 5 (nI p)).1 5 = nI p from rfl, adr_2 ra pa (by omega)]
            have e1 : s_has (si (si σ 2 2) 5 (nI p)) = if σ.2.2.1 7 p = 0 then 8 else 9 := by
              show (if xF σ (nI p) = 0 then (8 : Int32) else 9) = _
              rw [xf (by omega)]
            rw [e1]; rfl
          rw [hz]
          exact cX_getTiP hc hc1 hcn e e2 b1 b2 b3 b4 hs hcf (by rw [nI_clamp (by omega)]; exact ht0) g1 g2 g3 (by omega)
        · rw [hv] at ht0 ⊢
          rw [hk] at ht0 ⊢
          rw [adp_q (by omega)] at ht0
          rw [if_neg (lN_ne0 (by omega) (by omega)), if_pos rfl, if_pos rfl, lN_pred, lN_nI]
          obtain ⟨s2, num2, hs2, es2, g1, -, ⟨g2, g3, -, -⟩, -, g4⟩ := vwN h hi hq2 (by rw [h4]; decide)
          have hz : hcell ra pa (si (si σ 2 3) 5 (nI q2)) = .inr (0, [.int 10, .long (nI s2).toInt64, .ref (ra q2)]) := by
            unfold hcell
            rw [show (si (si σ 2 3) 5 (nI q2)).1 2 = 3 from rfl, show (si (si σ 2 3) 5 (nI q2)).1 5 = nI q2 from rfl, adr_3 ra pa (by omega)]
            have e1 : s_val (si (si σ 2 3) 5 (nI q2)) = (nI s2).toInt64 := by
              show (xS σ (nI q2)).toInt64 = _
              rw [xs (by omega), es2]
            rw [e1]; rfl
          rw [hz]
          rw [hk] at e
          exact cX_getTiN hc hc1 hcn e e2 b1 b2 b3 b4 hs hcf (by rw [nI_clamp (by omega)]; exact ht0) g1 g2 g3 (by omega)
end THG
end
section
theorem gi_tab : ∀ a, a < 11 → ∀ b, b < 11 → gi (nI a) (nI b) = (if a < 8 ∧ b < 8 then s_goes (nI a) (nI b) else decide ((a = 8 ∧ b = 8) ∨ (a = 9 ∧ (b = 8 ∨ b = 9)) ∨ (a = 10 ∧ b = 10))) := by decide +kernel
theorem gi_n {a b : Nat} (ha : a < 8) (hb : b < 8) : gi (nI a) (nI b) = s_goes (nI a) (nI b) := by
  rw [gi_tab a (by omega) b (by omega), if_pos ⟨ha, hb⟩]
theorem gi_o {a b : Nat} (ha : a < 11) (hb : b < 11) (h : ¬ (a < 8 ∧ b < 8)) : gi (nI a) (nI b) = decide ((a = 8 ∧ b = 8) ∨ (a = 9 ∧ (b = 8 ∨ b = 9)) ∨ (a = 10 ∧ b = 10)) := by
  rw [gi_tab a (by omega) b (by omega), if_neg h]
theorem nI_lt8 {k : Nat} (hk : k ≤ 10) : nI k < 8 ↔ k < 8 := by
  rw [show (8 : Int32) = nI 8 from rfl, nI_ltI (by omega) (by decide)]
theorem s_bits_cg {p p' : Nat → Bool} : ∀ (m k : Nat) (acc : Int32), (∀ j, k ≤ j → j < k + m → p j = p' j) → s_bits p m k acc = s_bits p' m k acc := by
  intro m
  induction m with
  | zero => intro k acc _; rfl
  | succ m ih =>
    intro k acc h
    show s_bits p m (k + 1) (acc ||| (if p k = true then _ else 0)) = s_bits p' m (k + 1) (acc ||| (if p' k = true then _ else 0))
    rw [h k (Nat.le_refl k) (by omega)]
    exact ih (k + 1) _ (fun j h1 h2 => h j (by omega) (by omega))
/-- setPlace's fault, of a thing (t, w) -/
def s_sFt (σ : sg) (t w i : Int32) : Int32 := if ¬ t = 3 then (if t = 0 then 1 else 2) else if xK σ w < 8 ∧ σ.1 2 = 0 then 2 else if s_out i (xS σ w) = true then 3 else if s_unfit σ w = true then 2 else 0
theorem sFt_eq (σ : sg) (r i : Int32) : s_sF σ r i = s_sFt σ (xT σ r) (xW σ r) i := rfl
section THG2
variable {G : zh_G} {l : Launch} {f : Nat → va_E} {nn : Nat} {σ : sg} {R P N D : Nat} {ra pa : Nat → Nat}
theorem rF_3 (w i to : Int32) : s_rF σ 3 w i to = if ¬ xK σ w < 8 then 2 else if s_out i (xS σ w) = true then 3 else if s_goes (xK σ w) to = true then 0 else 2 := rfl
theorem wF_3 (w i to : Int32) : s_wF σ 3 w i to = if ¬ xK σ w < 8 then 2 else if s_out i (xS σ w) = true then 3 else if s_goes to (xK σ w) = true then 0 else 2 := rfl
theorem u_read (h : cP G f nn σ R P ra pa) (hi : iv σ R P N D) {t w i : Int32} (ht : tw R P t w) {b : Nat} (hb : b < 8) {c : Nat} {k0 a0 t0 : Value} (hc : f c = .inr (0, [k0, a0, t0])) (hc1 : zg_B G ≤ c) (hc2 : c < zg_B G + 28) : zc G l yX7_readPlace cX7_readPlace 5 (some .int) 2 [va_rf (adr ra pa t w), .int i, .int (nI b), .ref c] (f, nn) 0 0 (fun o h' => o = some (.int (s_rF σ t w i (nI b))) ∧ h' = (if s_rF σ t w i (nI b) = 0 then va_up f c (.inr (0, [.int (nI b), .long (s_as (nI b) (xP σ w i)), .null])) else f, nn)) := by
  have hcn : c < nn := by have := h.1; omega
  rcases ht with rfl | ⟨rfl, p, hp1, hp2, rfl⟩ | ⟨rfl, q, hq, rfl⟩
  · exact cX_rd0 hc hc1 hcn
  · have := hi.2.1.2
    rw [adr_2 ra pa (by omega)]
    obtain ⟨e, b1, b2, -⟩ := vwP h hp1 hp2
    exact cX_rdP hc hc1 hcn e b1 b2
  · have hR := hi.1.2
    obtain ⟨⟨k, hk10, ek⟩, -, hpv⟩ := hi.2.2.2.2.2.2.1 q hq
    rw [adr_3 ra pa (by omega), rF_3, xs (by omega), xk (by omega)]
    by_cases hK : σ.2.2.1 9 q < 8
    · obtain ⟨s, num, hs, es, e, e2, ⟨b1, b2, b3, b4⟩, hnum, -⟩ := vwN h hi hq hK
      rw [if_neg (fun z => z hK), es, co_out i hs]
      by_cases hco : co i (nI s) = true
      · rw [if_pos hco]; exact cX_rdNo hc hc1 hcn e e2 b1 b2 b3 b4 hs hco
      · have hcf : co i (nI s) = false := by simpa using hco
        obtain ⟨j, hj, rfl⟩ := vp_in_of (co_in hs hcf) (by omega)
        rw [if_neg hco]
        have hk8 : k < 8 := by rw [ek] at hK; exact (nI_lt8 hk10).mp hK
        have hgi : gi (σ.2.2.1 9 q) (nI b) = s_goes (σ.2.2.1 9 q) (nI b) := by rw [ek]; exact gi_n hk8 hb
        by_cases hg : s_goes (σ.2.2.1 9 q) (nI b) = true
        · rw [if_pos hg, if_pos rfl, xp (by omega) (by omega), ← hnum j hj, ← show (nI j).toNatClampNeg = j from nI_clamp (by omega)]
          rw [show nI ((nI j).toNatClampNeg) = nI j by rw [nI_clamp (by omega)]]
          exact cX_rdNy hc hc1 hcn e e2 b1 b2 b3 b4 hs hcf (hgi.trans hg)
        · rw [if_neg hg]
          exact cX_rdNb hc hc1 hcn e e2 b1 b2 b3 b4 hs hcf (by rw [hgi]; simpa using hg)
    · obtain ⟨s, num, hs, es, e, e2, ⟨b1, b2, b3, b4⟩, hnum, -⟩ := vwT h hi hq hK
      rw [if_pos hK]
      exact cX_rdT hc hc1 hcn e e2 b1 b2 b3 b4 hs
theorem cN_same (h : cP G f nn σ R P ra pa) {v : Option Value} : cN G f nn σ R P ra pa v v (f, nn) := ⟨rfl, rfl, h, fun _ _ _ => rfl⟩
theorem zc_same (h : cP G f nn σ R P ra pa) {y : MethodName} {cc : ByteArray} {n : Nat} {r : Option FieldType} {d : Nat} {av : List Value} {mc ms0 : Nat} {v : Option Value} (hz : zc G l y cc n r d av (f, nn) mc ms0 (fun o h' => o = v ∧ h' = (f, nn))) : zc G l y cc n r d av (f, nn) mc ms0 (cN G f nn σ R P ra pa v) :=
  zc.weaken (fun o h' q => by obtain ⟨rfl, rfl⟩ := q; exact cN_same h) hz
theorem zc_put {σ2 : sg} {x : Nat} {e : va_E} {f : Nat → va_E} (h2 : cP G (va_up f x e) nn σ2 R P ra pa) (hx : x < zg_B G + 18 ∨ zg_B G + 28 ≤ x) {y : MethodName} {cc : ByteArray} {n : Nat} {r : Option FieldType} {d : Nat} {av : List Value} {mc ms0 : Nat} {v : Option Value} (hz : zc G l y cc n r d av (f, nn) mc ms0 (fun o h' => o = v ∧ h' = (va_up f x e, nn))) : zc G l y cc n r d av (f, nn) mc ms0 (cN G f nn σ2 R P ra pa v) :=
  zc.weaken (fun o h' q => by obtain ⟨rfl, rfl⟩ := q; exact ⟨rfl, rfl, h2, fun a h1 h2 => vne (by omega)⟩) hz
theorem u_write (h : cP G f nn σ R P ra pa) (hi : iv σ R P N D) {t w i : Int32} (ht : tw R P t w) {b : Nat} (hb : b < 8) {v : Int64} : zc G l yX7_writePlace cX7_writePlace 6 (some .int) 1 [va_rf (adr ra pa t w), .int i, .int (nI b), .long v] (f, nn) 0 0 (cN G f nn (s_writeS σ t w i (nI b) v) R P ra pa (some (.int (s_wF σ t w i (nI b))))) := by
  unfold s_writeS
  rcases ht with rfl | ⟨rfl, p, hp1, hp2, rfl⟩ | ⟨rfl, q, hq, rfl⟩
  · exact zc_same h cX_wr0
  · have := hi.2.1.2
    rw [adr_2 ra pa (by omega)]
    obtain ⟨e, b1, b2, -⟩ := vwP h hp1 hp2
    exact zc_same h (cX_wrP e b1 b2)
  · have hR := hi.1.2
    obtain ⟨⟨k, hk10, ek⟩, -, hpv⟩ := hi.2.2.2.2.2.2.1 q hq
    rw [adr_3 ra pa (by omega)]
    by_cases hK : σ.2.2.1 9 q < 8
    · obtain ⟨s, num, hs, es, e, e2, ⟨b1, b2, b3, b4⟩, hnum, hlo⟩ := vwN h hi hq hK
      have base : s_wF σ 3 (nI q) i (nI b) = if co i (nI s) = true then 3 else if s_goes (nI b) (σ.2.2.1 9 q) = true then 0 else 2 := by
        rw [wF_3, xs (by omega), xk (by omega), if_neg (fun z => z hK), es, co_out i hs]
      by_cases hco : co i (nI s) = true
      · rw [if_pos hco] at base
        rw [base]; exact zc_same h (cX_wrNo e e2 b1 b2 b3 b4 hs hco)
      · have hcf : co i (nI s) = false := by simpa using hco
        obtain ⟨j, hj, rfl⟩ := vp_in_of (co_in hs hcf) (by omega)
        rw [if_neg hco] at base
        have hk8 : k < 8 := by rw [ek] at hK; exact (nI_lt8 hk10).mp hK
        have hgi : gi (nI b) (σ.2.2.1 9 q) = s_goes (nI b) (σ.2.2.1 9 q) := by rw [ek]; exact gi_n hb hk8
        by_cases hg : s_goes (nI b) (σ.2.2.1 9 q) = true
        · rw [if_pos hg] at base
          rw [base, if_pos rfl, xk (by omega), ix16 (by omega) (by omega)]
          have hz := cP_num h hq hK (j := j) (by rw [es, nI_clamp (by omega)]; exact hj) (iv_sz hi) (num := num) (by rw [es, nI_clamp (by omega)]; exact e2) (s_as (σ.2.2.1 9 q) (s_as (nI b) v))
          rw [es, nI_clamp (show s < 2 ^ 31 by omega)] at hz
          refine zc_put hz (by omega) ?_
          have := cX_wrNy (l := l) (v := v) e e2 b1 b2 b3 b4 hs hcf (hgi.trans hg)
          rw [nI_clamp (show j < 2 ^ 31 by omega)] at this
          exact this
        · rw [if_neg hg] at base
          rw [base]
          exact zc_same h (cX_wrNb e e2 b1 b2 b3 b4 hs hcf (by rw [hgi]; simpa using hg))
    · obtain ⟨s, num, hs, es, e, e2, ⟨b1, b2, b3, b4⟩, hnum, -⟩ := vwT h hi hq hK
      have base : s_wF σ 3 (nI q) i (nI b) = 2 := by rw [wF_3, xk (by omega), if_pos hK]
      rw [base]
      exact zc_same h (cX_wrT e e2 b1 b2 b3 b4 hs)
theorem uf_num {σh : sg} {w : Int32} (hK : xK σh w < 8) : s_unfit σh w = (decide (¬ σh.1 2 = 1) || !(s_goes (σh.1 3) (xK σh w))) := by unfold s_unfit; rw [if_pos hK]
theorem uf_thg {σh : sg} {w : Int32} (hK : ¬ xK σh w < 8) : s_unfit σh w = decide (σh.1 2 = 1 ∨ (σh.1 2 = 2 ∧ (xK σh w = 10 ∨ (xK σh w = 9 ∧ xF σh (σh.1 5) = 0))) ∨ (σh.1 2 = 3 ∧ ¬ xK σh w = 10)) := by unfold s_unfit; rw [if_neg hK]
theorem has_0 {σh : sg} (h : σh.1 2 = 0) : s_has σh = -9 := by unfold s_has; rw [if_pos h]
theorem has_1 {σh : sg} (h : σh.1 2 = 1) : s_has σh = σh.1 3 := by unfold s_has; rw [if_neg (by rw [h]; decide), if_pos h]
theorem has_3 {σh : sg} (h : σh.1 2 = 3) : s_has σh = 10 := by unfold s_has; rw [if_neg (by rw [h]; decide), if_neg (by rw [h]; decide), if_pos h]
theorem has_2 {σh : sg} (h : σh.1 2 = 2) : s_has σh = if xF σh (σh.1 5) = 0 then 8 else 9 := by unfold s_has; rw [if_neg (by rw [h]; decide), if_neg (by rw [h]; decide), if_neg (by rw [h]; decide)]
theorem nI_ne9 {k : Nat} (hk : k ≤ 10) : ¬ nI k = -9 := by
  intro e
  have := congrArg Int32.toInt e
  rw [nI_toInt (by omega), show (-9 : Int32).toInt = -9 from by decide] at this
  omega
theorem nI10 {k : Nat} (hk : k ≤ 10) : nI k = 10 ↔ k = 10 := by rw [show (10 : Int32) = nI 10 from rfl, nI_eq (by omega) (by decide)]
theorem nI9 {k : Nat} (hk : k ≤ 10) : nI k = 9 ↔ k = 9 := by rw [show (9 : Int32) = nI 9 from rfl, nI_eq (by omega) (by decide)]
/-- setPlace of what a Held at c has: c pictures σh, whose rows are σ's -/
theorem u_set (h : cP G f nn σ R P ra pa) (hi : iv σ R P N D) {t w i : Int32} (ht : tw R P t w) {c : Nat} {σh : sg} (hA : σh.2.2 = σ.2.2) (hg : gv σ.2.2.1 R P (σh.1 2) (σh.1 3) σh.2.1 (σh.1 5)) (hc : f c = hcell ra pa σh) (hc1 : zg_B G ≤ c) (hc2 : c < zg_B G + 28) : zc G l yX7_setPlace cX7_setPlace 4 (some .int) 3 [va_rf (adr ra pa t w), .int i, .ref c] (f, nn) 0 0 (cN G f nn (if s_sFt σh t w i = 0 then sp σ (16 * w + i).toNatClampNeg (s_setV σh w) else σ) R P ra pa (some (.int (s_sFt σh t w i)))) := by
  have hcn : c < nn := by have := h.1; omega
  have hA1 : σh.2.2.1 = σ.2.2.1 := by rw [hA]
  rcases ht with rfl | ⟨rfl, p, hp1, hp2, rfl⟩ | ⟨rfl, q, hq, rfl⟩
  · exact zc_same h (cX_st0 hc hc1 hcn)
  · have := hi.2.1.2
    rw [adr_2 ra pa (by omega)]
    obtain ⟨e, b1, b2, -⟩ := vwP h hp1 hp2
    exact zc_same h (cX_stP hc hc1 hcn e b1 b2)
  · have hR := hi.1.2
    have hP40 := hi.2.1.2
    obtain ⟨⟨k, hk10, ek⟩, -, hpv⟩ := hi.2.2.2.2.2.2.1 q hq
    have xk2 : xK σh (nI q) = σ.2.2.1 9 q := by rw [xk (by omega), hA1]
    have xs2 : xS σh (nI q) = σ.2.2.1 10 q := by rw [xs (by omega), hA1]
    rw [adr_3 ra pa (by omega)]
    have hsF : s_sFt σh 3 (nI q) i = if σ.2.2.1 9 q < 8 ∧ σh.1 2 = 0 then 2 else if s_out i (σ.2.2.1 10 q) = true then 3 else if s_unfit σh (nI q) = true then 2 else 0 := by
      unfold s_sFt; rw [if_neg (by decide), xk2, xs2]
    by_cases hK : σ.2.2.1 9 q < 8
    · obtain ⟨s, num, hs, es, e, e2, ⟨b1, b2, b3, b4⟩, hnum, hlo⟩ := vwN h hi hq hK
      have hk8 : k < 8 := by rw [ek] at hK; exact (nI_lt8 hk10).mp hK
      by_cases h0 : σh.1 2 = 0
      · rw [if_pos ⟨hK, h0⟩] at hsF
        rw [hsF]
        exact zc_same h (cX_stNz hc hc1 hcn e e2 b1 b2 b3 b4 hs (has_0 h0))
      · rw [if_neg (fun z => h0 z.2), es, co_out i hs] at hsF
        have hkn : ¬ s_has σh = -9 := by
          rcases hg with g | ⟨g, ⟨j, hj, ej⟩, -⟩ | ⟨g, -⟩ | ⟨g, -⟩
          · exact absurd g h0
          · rw [has_1 g, ej]; exact nI_ne9 (by omega)
          · rw [has_2 g]; split <;> decide
          · rw [has_3 g]; decide
        by_cases hco : co i (nI s) = true
        · rw [if_pos hco] at hsF
          rw [hsF]
          exact zc_same h (cX_stNo hc hc1 hcn e e2 b1 b2 b3 b4 hs hkn hco)
        · have hcf : co i (nI s) = false := by simpa using hco
          rw [if_neg hco, uf_num (by rw [xk2]; exact hK), xk2] at hsF
          rcases hg with g | ⟨g, ⟨j, hj, ej⟩, hid⟩ | ⟨g, p, hp1, hp2, ep⟩ | ⟨g, q2, hq2, eq2, h4⟩
          · exact absurd g h0
          · have hgi : gi (s_has σh) (σ.2.2.1 9 q) = s_goes (σh.1 3) (σ.2.2.1 9 q) := by rw [has_1 g, ej, ek]; exact gi_n hj hk8
            rw [g, show decide (¬ (1 : Int32) = 1) = false from rfl, Bool.false_or] at hsF
            by_cases hgo : s_goes (σh.1 3) (σ.2.2.1 9 q) = true
            · rw [hgo] at hsF
              rw [if_neg (by decide)] at hsF
              rw [hsF, if_pos rfl]
              obtain ⟨j2, hj2, rfl⟩ := vp_in_of (co_in hs hcf) (by omega)
              rw [ix16 (by omega) (by omega)]
              have hsv : s_setV σh (nI q) = s_as (σ.2.2.1 9 q) (s_as (s_has σh) (s_val σh)) := by
                unfold s_setV
                rw [if_neg h0, if_pos g, xk2, has_1 g]
                have : s_val σh = σh.2.1 := by unfold s_val; rw [if_neg h0, if_pos g]
                rw [this, hid]
              rw [hsv]
              have hz := cP_num h hq hK (j := j2) (by rw [es, nI_clamp (by omega)]; exact hj2) (iv_sz hi) (num := num) (by rw [es, nI_clamp (by omega)]; exact e2) (s_as (σ.2.2.1 9 q) (s_as (s_has σh) (s_val σh)))
              rw [es, nI_clamp (show s < 2 ^ 31 by omega)] at hz
              refine zc_put hz (by omega) ?_
              have := cX_stNy (l := l) hc hc1 hcn e e2 b1 b2 b3 b4 hs hkn hcf (hgi.trans hgo)
              rw [nI_clamp (show j2 < 2 ^ 31 by omega)] at this
              exact this
            · have hgo : s_goes (σh.1 3) (σ.2.2.1 9 q) = false := by simpa using hgo
              rw [hgo] at hsF
              rw [hsF]
              exact zc_same h (cX_stNb hc hc1 hcn e e2 b1 b2 b3 b4 hs hkn hcf (hgi.trans hgo))
          · rw [g] at hsF
            rw [hsF]
            refine zc_same h (cX_stNb hc hc1 hcn e e2 b1 b2 b3 b4 hs hkn hcf ?_)
            rw [has_2 g, ek]
            split
            · rw [show (8 : Int32) = nI 8 from rfl, gi_o (by omega) (by omega) (by omega)]; simp; omega
            · rw [show (9 : Int32) = nI 9 from rfl, gi_o (by omega) (by omega) (by omega)]; simp; omega
          · rw [g] at hsF
            rw [hsF]
            refine zc_same h (cX_stNb hc hc1 hcn e e2 b1 b2 b3 b4 hs hkn hcf ?_)
            rw [has_3 g, ek, show (10 : Int32) = nI 10 from rfl, gi_o (by omega) (by omega) (by omega)]; simp; omega
    · obtain ⟨s, thg, hs, es, e, e2, ⟨b1, b2, b3, b4⟩, hthg, hlo⟩ := vwT h hi hq hK
      have hk8 : ¬ k < 8 := by rw [ek] at hK; exact fun z => hK ((nI_lt8 hk10).mpr z)
      rw [if_neg (fun z => hK z.1), es, co_out i hs] at hsF
      by_cases hco : co i (nI s) = true
      · rw [if_pos hco] at hsF
        rw [hsF]
        exact zc_same h (cX_stTo hc hc1 hcn e e2 b1 b2 b3 b4 hs hco)
      · have hcf : co i (nI s) = false := by simpa using hco
        rw [if_neg hco, uf_thg (by rw [xk2]; exact hK), xk2] at hsF
        obtain ⟨j2, hj2, rfl⟩ := vp_in_of (co_in hs hcf) (by omega)
        rw [ix16 (by omega) (by omega)]
        have hthg2 : ∀ {x : Option Nat} {v : Int64}, x = adp ra pa (σ.2.2.1 9 q) v → cP G (va_up f (ra q + 1) (.inl (zg_c G 3, s, .inr (.inr (.inr (.inr (va_up thg (nI j2).toNatClampNeg x))))))) nn (sp σ (16 * q + j2) v) R P ra pa := by
          intro x v hx
          have hz := cP_thg h hq hK (j := j2) (by rw [es, nI_clamp (by omega)]; exact hj2) (iv_sz hi) (thg := thg) (by rw [es, nI_clamp (by omega)]; exact e2) hx
          rw [es, nI_clamp (show s < 2 ^ 31 by omega)] at hz
          rw [nI_clamp (show j2 < 2 ^ 31 by omega)]; exact hz
        rcases hg with g | ⟨g, ⟨j, hj, ej⟩, hid⟩ | ⟨g, p, hp1, hp2, ep⟩ | ⟨g, q2, hq2, eq2, h4⟩
        · rw [g, if_neg (by simp)] at hsF
          rw [hsF, if_pos rfl]
          have hv0 : s_setV σh (nI q) = 0 := by unfold s_setV; rw [if_pos g]
          rw [hv0]
          exact zc_put (hthg2 (x := none) rfl) (by omega) (cX_stTz hc hc1 hcn e e2 b1 b2 b3 b4 hs hcf (has_0 g) (by rw [g]; rfl))
        · rw [g, if_pos (by simp)] at hsF
          rw [hsF]
          refine zc_same h (cX_stTb hc hc1 hcn e e2 b1 b2 b3 b4 hs hcf (by rw [has_1 g, ej]; exact nI_ne9 (by omega)) ?_)
          rw [has_1 g, ej, ek, gi_o (by omega) (by omega) (by omega)]; simp; omega
        · obtain ⟨p1, p2, p3, p4⟩ := vwP h hp1 hp2
          have xf2 : xF σh (σh.1 5) = σ.2.2.1 7 p := by rw [ep, xf (by omega), hA1]
          have hkn : ¬ s_has σh = -9 := by rw [has_2 g]; split <;> decide
          rw [xf2] at hsF
          by_cases hfit : (k = 10 ∨ (k = 9 ∧ σ.2.2.1 7 p = 0))
          · rw [if_pos (by rw [decide_eq_true_iff, g, ek]; right; left; refine ⟨rfl, ?_⟩; rw [nI10 hk10, nI9 hk10]; exact hfit)] at hsF
            rw [hsF]
            refine zc_same h (cX_stTb hc hc1 hcn e e2 b1 b2 b3 b4 hs hcf hkn ?_)
            rw [has_2 g, xf2, ek]
            split
            · rw [show (8 : Int32) = nI 8 from rfl, gi_o (by omega) (by omega) (by omega)]; simp; omega
            · next hfn => rw [show (9 : Int32) = nI 9 from rfl, gi_o (by omega) (by omega) (by omega)]; simp; rcases hfit with z | ⟨z, z2⟩; omega; exact absurd z2 hfn
          · rw [if_neg (by rw [decide_eq_true_iff, g, ek, nI10 hk10, nI9 hk10]; rintro (z | ⟨-, z⟩ | ⟨z, -⟩); exact absurd z (by decide); exact hfit z; exact absurd z (by decide))] at hsF
            rw [hsF, if_pos rfl]
            have hv : s_setV σh (nI q) = lN p := by
              unfold s_setV; rw [if_neg (by rw [g]; decide), if_neg (by rw [g]; decide), if_pos g, ep, nI_l (by omega)]
            rw [hv]
            have hk10' : ¬ σ.2.2.1 9 q = 10 := by rw [ek, nI10 hk10]; exact fun z => hfit (Or.inl z)
            refine zc_put (hthg2 (x := some (pa p)) (adp_p hk10' hp1 (by omega)).symm) (by omega) (cX_stTP hc hc1 hcn e e2 b1 b2 b3 b4 hs hcf hkn ?_ (by rw [g, ep, adr_2 ra pa (by omega)]) p1 p2 p3)
            rw [has_2 g, xf2, ek]
            split
            · next hfn => rw [show (8 : Int32) = nI 8 from rfl, gi_o (by omega) (by omega) (by omega)]; simp; have : ¬ k = 10 := fun z => hfit (Or.inl z); have : ¬ k = 9 := fun z => hfit (Or.inr ⟨z, hfn⟩); omega
            · rw [show (9 : Int32) = nI 9 from rfl, gi_o (by omega) (by omega) (by omega)]; simp; have : ¬ k = 10 := fun z => hfit (Or.inl z); omega
        · have hkn : ¬ s_has σh = -9 := by rw [has_3 g]; decide
          by_cases hk : k = 10
          · rw [if_neg (by rw [decide_eq_true_iff, g, ek, nI10 hk10]; rintro (z | ⟨z, -⟩ | ⟨-, z⟩); exact absurd z (by decide); exact absurd z (by decide); exact z hk)] at hsF
            rw [hsF, if_pos rfl]
            have hv : s_setV σh (nI q) = lN (q2 + 1) := by
              unfold s_setV; rw [if_neg (by rw [g]; decide), if_neg (by rw [g]; decide), if_neg (by rw [g]; decide), eq2, nI_l (by omega), lN_1]
            rw [hv]
            obtain ⟨s2, num2, hs2, es2, g1, -, ⟨g2, g3, -, -⟩, -, g4⟩ := vwN h hi hq2 (by rw [h4]; decide)
            have hkk : σ.2.2.1 9 q = 10 := by rw [ek, nI10 hk10]; exact hk
            refine zc_put (hthg2 (x := some (ra q2)) (by rw [hkk, adp_q (by omega)])) (by omega) (cX_stTN hc hc1 hcn e e2 b1 b2 b3 b4 hs hcf hkn ?_ (by rw [g, eq2, adr_3 ra pa (by omega)]) g1 g2 g3)
            rw [has_3 g, hkk]; decide +kernel
          · rw [if_pos (by rw [decide_eq_true_iff, g, ek, nI10 hk10]; exact Or.inr (Or.inr ⟨rfl, hk⟩))] at hsF
            rw [hsF]
            refine zc_same h (cX_stTb hc hc1 hcn e e2 b1 b2 b3 b4 hs hcf hkn ?_)
            rw [has_3 g, ek, show (10 : Int32) = nI 10 from rfl, gi_o (by omega) (by omega) (by omega)]; simp; omega
end THG2
end
