section
-- ===== PART A: goes FIRST, ahead of the names: the tables' words, and 'selects' of the private methods out of them =====
/-- a private method of a class that the tables say can be made, by its rows of tables_1 -/
def lw_okq (q : MethodName × Nat) : Prop := (q.1.cls ≠ "java/lang/invoke/MethodHandle" ∧ q.1.cls ≠ "java/lang/invoke/VarHandle") ∧ Cond.instantiable q.1.cls q.2 ∈ tables_1 ∧ Cond.privateMethod q.1 ∈ tables_1 ∧ Cond.instanceMethod q.1 ∈ tables_1
theorem lw_p0 : lw_okq (⟨"ProbeRacks$Held", "holdNumber", "(IJ)V"⟩, 3) := ⟨⟨by decide +kernel, by decide +kernel⟩, List.mem_of_getElem? (i := 21) (by decide +kernel), List.mem_of_getElem? (i := 173) (by decide +kernel), List.mem_of_getElem? (i := 174) (by decide +kernel)⟩
theorem lw_p1 : lw_okq (⟨"ProbeRacks$Held", "holdThing", "(LProbeRacks$Thing;)V"⟩, 3) := ⟨⟨by decide +kernel, by decide +kernel⟩, List.mem_of_getElem? (i := 21) (by decide +kernel), List.mem_of_getElem? (i := 200) (by decide +kernel), List.mem_of_getElem? (i := 201) (by decide +kernel)⟩
theorem lw_p2 : lw_okq (⟨"ProbeRacks", "answer", "(II)I"⟩, 8) := ⟨⟨by decide +kernel, by decide +kernel⟩, List.mem_of_getElem? (i := 11) (by decide +kernel), List.mem_of_getElem? (i := 231) (by decide +kernel), List.mem_of_getElem? (i := 232) (by decide +kernel)⟩
theorem lw_p3 : lw_okq (⟨"ProbeRacks", "countFault", "(I)V"⟩, 8) := ⟨⟨by decide +kernel, by decide +kernel⟩, List.mem_of_getElem? (i := 11) (by decide +kernel), List.mem_of_getElem? (i := 235) (by decide +kernel), List.mem_of_getElem? (i := 236) (by decide +kernel)⟩
theorem lw_p4 : lw_okq (⟨"ProbeRacks", "readWithin", "(LProbeRacks$Thing;II)I"⟩, 8) := ⟨⟨by decide +kernel, by decide +kernel⟩, List.mem_of_getElem? (i := 11) (by decide +kernel), List.mem_of_getElem? (i := 280) (by decide +kernel), List.mem_of_getElem? (i := 281) (by decide +kernel)⟩
theorem lw_p5 : lw_okq (⟨"ProbeRacks", "takeInner", "(LProbeRacks$Thing;I)I"⟩, 8) := ⟨⟨by decide +kernel, by decide +kernel⟩, List.mem_of_getElem? (i := 11) (by decide +kernel), List.mem_of_getElem? (i := 284) (by decide +kernel), List.mem_of_getElem? (i := 285) (by decide +kernel)⟩
theorem lw_p6 : lw_okq (⟨"ProbeRacks", "writeWithin", "(LProbeRacks$Thing;III)I"⟩, 8) := ⟨⟨by decide +kernel, by decide +kernel⟩, List.mem_of_getElem? (i := 11) (by decide +kernel), List.mem_of_getElem? (i := 292) (by decide +kernel), List.mem_of_getElem? (i := 293) (by decide +kernel)⟩
theorem lw_p7 : lw_okq (⟨"ProbeRacks", "passPlace", "(LProbeRacks$Thing;LProbeRacks$Thing;II)I"⟩, 8) := ⟨⟨by decide +kernel, by decide +kernel⟩, List.mem_of_getElem? (i := 11) (by decide +kernel), List.mem_of_getElem? (i := 300) (by decide +kernel), List.mem_of_getElem? (i := 301) (by decide +kernel)⟩
theorem lw_p8 : lw_okq (⟨"ProbeRacks$Step", "become", "(IIIII)V"⟩, 6) := ⟨⟨by decide +kernel, by decide +kernel⟩, List.mem_of_getElem? (i := 41) (by decide +kernel), List.mem_of_getElem? (i := 322) (by decide +kernel), List.mem_of_getElem? (i := 323) (by decide +kernel)⟩
theorem lw_p9 : lw_okq (⟨"ProbeRacks", "forgetRun", "()V"⟩, 8) := ⟨⟨by decide +kernel, by decide +kernel⟩, List.mem_of_getElem? (i := 11) (by decide +kernel), List.mem_of_getElem? (i := 330) (by decide +kernel), List.mem_of_getElem? (i := 331) (by decide +kernel)⟩
theorem lw_p10 : lw_okq (⟨"ProbeRacks", "doStep", "(LProbeRacks$Step;)I"⟩, 8) := ⟨⟨by decide +kernel, by decide +kernel⟩, List.mem_of_getElem? (i := 11) (by decide +kernel), List.mem_of_getElem? (i := 334) (by decide +kernel), List.mem_of_getElem? (i := 335) (by decide +kernel)⟩
theorem lw_p11 : lw_okq (⟨"ProbeRacks", "movePlace", "(LProbeRacks$Thing;ILProbeRacks$Thing;I)I"⟩, 8) := ⟨⟨by decide +kernel, by decide +kernel⟩, List.mem_of_getElem? (i := 11) (by decide +kernel), List.mem_of_getElem? (i := 338) (by decide +kernel), List.mem_of_getElem? (i := 339) (by decide +kernel)⟩
theorem lw_p12 : lw_okq (⟨"ProbeRacksModel", "newRow", "(II)I"⟩, 20) := ⟨⟨by decide +kernel, by decide +kernel⟩, List.mem_of_getElem? (i := 374) (by decide +kernel), List.mem_of_getElem? (i := 456) (by decide +kernel), List.mem_of_getElem? (i := 457) (by decide +kernel)⟩
theorem lw_p13 : lw_okq (⟨"ProbeRacksModel", "hold", "(IJ)V"⟩, 20) := ⟨⟨by decide +kernel, by decide +kernel⟩, List.mem_of_getElem? (i := 374) (by decide +kernel), List.mem_of_getElem? (i := 480) (by decide +kernel), List.mem_of_getElem? (i := 481) (by decide +kernel)⟩
theorem lw_p14 : lw_okq (⟨"ProbeRacksModel", "doGet", "(II)I"⟩, 20) := ⟨⟨by decide +kernel, by decide +kernel⟩, List.mem_of_getElem? (i := 374) (by decide +kernel), List.mem_of_getElem? (i := 501) (by decide +kernel), List.mem_of_getElem? (i := 502) (by decide +kernel)⟩
theorem lw_p15 : lw_okq (⟨"ProbeRacksModel", "getFault", "(III)I"⟩, 20) := ⟨⟨by decide +kernel, by decide +kernel⟩, List.mem_of_getElem? (i := 374) (by decide +kernel), List.mem_of_getElem? (i := 505) (by decide +kernel), List.mem_of_getElem? (i := 506) (by decide +kernel)⟩
def lw_privs_1 : List (MethodName × Nat) := [(⟨"ProbeRacks$Held", "holdNumber", "(IJ)V"⟩, 3), (⟨"ProbeRacks$Held", "holdThing", "(LProbeRacks$Thing;)V"⟩, 3), (⟨"ProbeRacks", "answer", "(II)I"⟩, 8), (⟨"ProbeRacks", "countFault", "(I)V"⟩, 8), (⟨"ProbeRacks", "readWithin", "(LProbeRacks$Thing;II)I"⟩, 8), (⟨"ProbeRacks", "takeInner", "(LProbeRacks$Thing;I)I"⟩, 8), (⟨"ProbeRacks", "writeWithin", "(LProbeRacks$Thing;III)I"⟩, 8), (⟨"ProbeRacks", "passPlace", "(LProbeRacks$Thing;LProbeRacks$Thing;II)I"⟩, 8), (⟨"ProbeRacks$Step", "become", "(IIIII)V"⟩, 6), (⟨"ProbeRacks", "forgetRun", "()V"⟩, 8), (⟨"ProbeRacks", "doStep", "(LProbeRacks$Step;)I"⟩, 8), (⟨"ProbeRacks", "movePlace", "(LProbeRacks$Thing;ILProbeRacks$Thing;I)I"⟩, 8), (⟨"ProbeRacksModel", "newRow", "(II)I"⟩, 20), (⟨"ProbeRacksModel", "hold", "(IJ)V"⟩, 20), (⟨"ProbeRacksModel", "doGet", "(II)I"⟩, 20), (⟨"ProbeRacksModel", "getFault", "(III)I"⟩, 20)]
theorem lw_r1 : ∀ q ∈ lw_privs_1, lw_okq q := List.forall_mem_cons.mpr ⟨lw_p0, List.forall_mem_cons.mpr ⟨lw_p1, List.forall_mem_cons.mpr ⟨lw_p2, List.forall_mem_cons.mpr ⟨lw_p3, List.forall_mem_cons.mpr ⟨lw_p4, List.forall_mem_cons.mpr ⟨lw_p5, List.forall_mem_cons.mpr ⟨lw_p6, List.forall_mem_cons.mpr ⟨lw_p7, List.forall_mem_cons.mpr ⟨lw_p8, List.forall_mem_cons.mpr ⟨lw_p9, List.forall_mem_cons.mpr ⟨lw_p10, List.forall_mem_cons.mpr ⟨lw_p11, List.forall_mem_cons.mpr ⟨lw_p12, List.forall_mem_cons.mpr ⟨lw_p13, List.forall_mem_cons.mpr ⟨lw_p14, List.forall_mem_cons.mpr ⟨lw_p15, fun _ h => absurd h List.not_mem_nil⟩⟩⟩⟩⟩⟩⟩⟩⟩⟩⟩⟩⟩⟩⟩⟩
theorem lw_p16 : lw_okq (⟨"ProbeRacksModel", "gets", "(II)V"⟩, 20) := ⟨⟨by decide +kernel, by decide +kernel⟩, List.mem_of_getElem? (i := 374) (by decide +kernel), List.mem_of_getElem? (i := 509) (by decide +kernel), List.mem_of_getElem? (i := 510) (by decide +kernel)⟩
theorem lw_p17 : lw_okq (⟨"ProbeRacksModel", "answer", "(II)I"⟩, 20) := ⟨⟨by decide +kernel, by decide +kernel⟩, List.mem_of_getElem? (i := 374) (by decide +kernel), List.mem_of_getElem? (i := 517) (by decide +kernel), List.mem_of_getElem? (i := 518) (by decide +kernel)⟩
theorem lw_p18 : lw_okq (⟨"ProbeRacksModel", "met1", "(I)I"⟩, 20) := ⟨⟨by decide +kernel, by decide +kernel⟩, List.mem_of_getElem? (i := 374) (by decide +kernel), List.mem_of_getElem? (i := 521) (by decide +kernel), List.mem_of_getElem? (i := 522) (by decide +kernel)⟩
theorem lw_p19 : lw_okq (⟨"ProbeRacksModel", "doSet", "(II)I"⟩, 20) := ⟨⟨by decide +kernel, by decide +kernel⟩, List.mem_of_getElem? (i := 374) (by decide +kernel), List.mem_of_getElem? (i := 529) (by decide +kernel), List.mem_of_getElem? (i := 530) (by decide +kernel)⟩
theorem lw_p20 : lw_okq (⟨"ProbeRacksModel", "setFault", "(II)I"⟩, 20) := ⟨⟨by decide +kernel, by decide +kernel⟩, List.mem_of_getElem? (i := 374) (by decide +kernel), List.mem_of_getElem? (i := 533) (by decide +kernel), List.mem_of_getElem? (i := 534) (by decide +kernel)⟩
theorem lw_p21 : lw_okq (⟨"ProbeRacksModel", "isNumbers", "(I)Z"⟩, 20) := ⟨⟨by decide +kernel, by decide +kernel⟩, List.mem_of_getElem? (i := 374) (by decide +kernel), List.mem_of_getElem? (i := 537) (by decide +kernel), List.mem_of_getElem? (i := 538) (by decide +kernel)⟩
theorem lw_p22 : lw_okq (⟨"ProbeRacksModel", "unfit", "(I)Z"⟩, 20) := ⟨⟨by decide +kernel, by decide +kernel⟩, List.mem_of_getElem? (i := 374) (by decide +kernel), List.mem_of_getElem? (i := 541) (by decide +kernel), List.mem_of_getElem? (i := 542) (by decide +kernel)⟩
theorem lw_p23 : lw_okq (⟨"ProbeRacksModel", "doRead", "(IIII)I"⟩, 20) := ⟨⟨by decide +kernel, by decide +kernel⟩, List.mem_of_getElem? (i := 374) (by decide +kernel), List.mem_of_getElem? (i := 552) (by decide +kernel), List.mem_of_getElem? (i := 553) (by decide +kernel)⟩
theorem lw_p24 : lw_okq (⟨"ProbeRacksModel", "readFault", "(IIII)I"⟩, 20) := ⟨⟨by decide +kernel, by decide +kernel⟩, List.mem_of_getElem? (i := 374) (by decide +kernel), List.mem_of_getElem? (i := 556) (by decide +kernel), List.mem_of_getElem? (i := 557) (by decide +kernel)⟩
theorem lw_p25 : lw_okq (⟨"ProbeRacksModel", "doWrite", "(IIIIJ)I"⟩, 20) := ⟨⟨by decide +kernel, by decide +kernel⟩, List.mem_of_getElem? (i := 374) (by decide +kernel), List.mem_of_getElem? (i := 564) (by decide +kernel), List.mem_of_getElem? (i := 565) (by decide +kernel)⟩
theorem lw_p26 : lw_okq (⟨"ProbeRacksModel", "writeFault", "(IIII)I"⟩, 20) := ⟨⟨by decide +kernel, by decide +kernel⟩, List.mem_of_getElem? (i := 374) (by decide +kernel), List.mem_of_getElem? (i := 568) (by decide +kernel), List.mem_of_getElem? (i := 569) (by decide +kernel)⟩
theorem lw_p27 : lw_okq (⟨"ProbeRacksModel", "sizeFault", "(I)I"⟩, 20) := ⟨⟨by decide +kernel, by decide +kernel⟩, List.mem_of_getElem? (i := 374) (by decide +kernel), List.mem_of_getElem? (i := 576) (by decide +kernel), List.mem_of_getElem? (i := 577) (by decide +kernel)⟩
theorem lw_p28 : lw_okq (⟨"ProbeRacksModel", "doWithin", "(III)I"⟩, 20) := ⟨⟨by decide +kernel, by decide +kernel⟩, List.mem_of_getElem? (i := 374) (by decide +kernel), List.mem_of_getElem? (i := 584) (by decide +kernel), List.mem_of_getElem? (i := 585) (by decide +kernel)⟩
theorem lw_p29 : lw_okq (⟨"ProbeRacksModel", "finds", "(II)I"⟩, 20) := ⟨⟨by decide +kernel, by decide +kernel⟩, List.mem_of_getElem? (i := 374) (by decide +kernel), List.mem_of_getElem? (i := 588) (by decide +kernel), List.mem_of_getElem? (i := 589) (by decide +kernel)⟩
theorem lw_p30 : lw_okq (⟨"ProbeRacksModel", "kinds", "(IZ)I"⟩, 20) := ⟨⟨by decide +kernel, by decide +kernel⟩, List.mem_of_getElem? (i := 374) (by decide +kernel), List.mem_of_getElem? (i := 604) (by decide +kernel), List.mem_of_getElem? (i := 605) (by decide +kernel)⟩
theorem lw_p31 : lw_okq (⟨"ProbeRacksModel", "firstFault", "(I)I"⟩, 20) := ⟨⟨by decide +kernel, by decide +kernel⟩, List.mem_of_getElem? (i := 374) (by decide +kernel), List.mem_of_getElem? (i := 608) (by decide +kernel), List.mem_of_getElem? (i := 609) (by decide +kernel)⟩
def lw_privs_2 : List (MethodName × Nat) := [(⟨"ProbeRacksModel", "gets", "(II)V"⟩, 20), (⟨"ProbeRacksModel", "answer", "(II)I"⟩, 20), (⟨"ProbeRacksModel", "met1", "(I)I"⟩, 20), (⟨"ProbeRacksModel", "doSet", "(II)I"⟩, 20), (⟨"ProbeRacksModel", "setFault", "(II)I"⟩, 20), (⟨"ProbeRacksModel", "isNumbers", "(I)Z"⟩, 20), (⟨"ProbeRacksModel", "unfit", "(I)Z"⟩, 20), (⟨"ProbeRacksModel", "doRead", "(IIII)I"⟩, 20), (⟨"ProbeRacksModel", "readFault", "(IIII)I"⟩, 20), (⟨"ProbeRacksModel", "doWrite", "(IIIIJ)I"⟩, 20), (⟨"ProbeRacksModel", "writeFault", "(IIII)I"⟩, 20), (⟨"ProbeRacksModel", "sizeFault", "(I)I"⟩, 20), (⟨"ProbeRacksModel", "doWithin", "(III)I"⟩, 20), (⟨"ProbeRacksModel", "finds", "(II)I"⟩, 20), (⟨"ProbeRacksModel", "kinds", "(IZ)I"⟩, 20), (⟨"ProbeRacksModel", "firstFault", "(I)I"⟩, 20)]
theorem lw_r2 : ∀ q ∈ lw_privs_2, lw_okq q := List.forall_mem_cons.mpr ⟨lw_p16, List.forall_mem_cons.mpr ⟨lw_p17, List.forall_mem_cons.mpr ⟨lw_p18, List.forall_mem_cons.mpr ⟨lw_p19, List.forall_mem_cons.mpr ⟨lw_p20, List.forall_mem_cons.mpr ⟨lw_p21, List.forall_mem_cons.mpr ⟨lw_p22, List.forall_mem_cons.mpr ⟨lw_p23, List.forall_mem_cons.mpr ⟨lw_p24, List.forall_mem_cons.mpr ⟨lw_p25, List.forall_mem_cons.mpr ⟨lw_p26, List.forall_mem_cons.mpr ⟨lw_p27, List.forall_mem_cons.mpr ⟨lw_p28, List.forall_mem_cons.mpr ⟨lw_p29, List.forall_mem_cons.mpr ⟨lw_p30, List.forall_mem_cons.mpr ⟨lw_p31, fun _ h => absurd h List.not_mem_nil⟩⟩⟩⟩⟩⟩⟩⟩⟩⟩⟩⟩⟩⟩⟩⟩
theorem lw_p32 : lw_okq (⟨"ProbeRacksModel", "does", "(I)I"⟩, 20) := ⟨⟨by decide +kernel, by decide +kernel⟩, List.mem_of_getElem? (i := 374) (by decide +kernel), List.mem_of_getElem? (i := 626) (by decide +kernel), List.mem_of_getElem? (i := 627) (by decide +kernel)⟩
theorem lw_p33 : lw_okq (⟨"ProbeRacksModel", "moves", "(IIII)I"⟩, 20) := ⟨⟨by decide +kernel, by decide +kernel⟩, List.mem_of_getElem? (i := 374) (by decide +kernel), List.mem_of_getElem? (i := 630) (by decide +kernel), List.mem_of_getElem? (i := 631) (by decide +kernel)⟩
def lw_privs_3 : List (MethodName × Nat) := [(⟨"ProbeRacksModel", "does", "(I)I"⟩, 20), (⟨"ProbeRacksModel", "moves", "(IIII)I"⟩, 20)]
theorem lw_r3 : ∀ q ∈ lw_privs_3, lw_okq q := List.forall_mem_cons.mpr ⟨lw_p32, List.forall_mem_cons.mpr ⟨lw_p33, fun _ h => absurd h List.not_mem_nil⟩⟩
def lw_privs : List (MethodName × Nat) := lw_privs_1 ++ (lw_privs_2 ++ (lw_privs_3))
def lw_tbl : List Cond := k2_sels lw_privs ++ tables_1
theorem lw_privs_ok : ∀ q ∈ lw_privs, lw_okq q := by
  show ∀ q ∈ lw_privs_1 ++ (lw_privs_2 ++ (lw_privs_3)), lw_okq q
  exact List.forall_mem_append.mpr ⟨lw_r1, List.forall_mem_append.mpr ⟨lw_r2, lw_r3⟩⟩
end
section

theorem goodIn_r {big : List Cond} (ws : List Cond) (ps : List Nat) (hp : ws = ps.filterMap (fun i => big[i]?)) (h : ws.all goodWord = true) : GoodIn big ws := by
  intro w hw
  have h1 := List.all_eq_true.mp h w hw
  rw [hp] at hw
  obtain ⟨i, -, hi⟩ := List.mem_filterMap.mp hw
  have hm : w ∈ big := by first | exact List.mem_of_getElem? hi | exact List.getElem?_mem hi
  exact ⟨hm, good_of_word h1⟩
theorem goodIn_app {big a b : List Cond} (ha : GoodIn big a) (hb : GoodIn big b) : GoodIn big (a ++ b) := fun w h => (List.mem_append.mp h).elim (ha w) (hb w)
theorem goodIn_ca {big a b : List Cond} {c : Cond} (ha : GoodIn big (c :: a)) (hb : GoodIn big b) : GoodIn big (c :: (a ++ b)) := fun w h => (List.mem_cons.mp h).elim (fun e => ha w (List.mem_cons.mpr (Or.inl e))) (fun h => (List.mem_append.mp h).elim (fun h => ha w (List.mem_cons.mpr (Or.inr h))) (hb w))
theorem goodIn_sub {big ws : List Cond} (hm : ∀ w ∈ ws, w ∈ big) (h : ws.all goodWord = true) : GoodIn big ws := fun w hw => ⟨hm w hw, good_of_word (List.all_eq_true.mp h w hw)⟩



def RX0 : String := "ProbeRacks$Held"
def TX0 : u_T := fun k => match k with
  | 0 => ("ProbeRacks$Held", "kind", "I", false)
  | 1 => ("ProbeRacks$Held", "amount", "J", false)
  | _ => ("ProbeRacks$Held", "thing", "LProbeRacks$Thing;", false)
def tyX0 : Nat → FieldType := fun k => match k with
  | 0 => .int
  | 1 => .long
  | _ => .object "ProbeRacks$Thing"
abbrev wsX00 : List Cond := u_ws RX0 TX0 3
theorem nmX0 : ∀ a, a < 3 → ∀ b, b < 3 → a ≠ b → (TX0 a).2.1 ≠ (TX0 b).2.1 := by decide +kernel
theorem tyX0_ok : ∀ k, k < 3 → parseFieldDescriptor (TX0 k).2.2.1 = some (tyX0 k) := by decide +kernel
abbrev cX0_init : ByteArray := prog_2_method_1_code
def yX0_init : MethodName := ⟨RX0, "<init>", "()V"⟩
abbrev cX0_holdNumber : ByteArray := prog_2_method_2_code
def yX0_holdNumber : MethodName := ⟨RX0, "holdNumber", "(IJ)V"⟩
abbrev cX0_holdThing : ByteArray := prog_2_method_3_code
def yX0_holdThing : MethodName := ⟨RX0, "holdThing", "(LProbeRacks$Thing;)V"⟩
def RX1 : String := "ProbeRacks$NumberRow"
def TX1 : u_T := fun k => match k with
  | 0 => ("ProbeRacks$Row", "kind", "I", true)
  | 1 => ("ProbeRacks$Row", "places", "I", true)
  | _ => ("ProbeRacks$NumberRow", "numbers", "[J", true)
def tyX1 : Nat → FieldType := fun k => match k with
  | 0 => .int
  | 1 => .int
  | _ => .array .long
abbrev wsX10 : List Cond := u_ws RX1 TX1 3
theorem nmX1 : ∀ a, a < 3 → ∀ b, b < 3 → a ≠ b → (TX1 a).2.1 ≠ (TX1 b).2.1 := by decide +kernel
theorem tyX1_ok : ∀ k, k < 3 → parseFieldDescriptor (TX1 k).2.2.1 = some (tyX1 k) := by decide +kernel
abbrev cX1_init : ByteArray := prog_3_method_1_code
def yX1_init : MethodName := ⟨RX1, "<init>", "(II)V"⟩
def RX2 : String := "ProbeRacks$Probe"
def TX2 : u_T := fun k => match k with
  | 0 => ("ProbeRacks$Probe", "number", "I", true)
  | _ => ("ProbeRacks$Probe", "fine", "Z", true)
def tyX2 : Nat → FieldType := fun k => match k with
  | 0 => .int
  | _ => .boolean
abbrev wsX20 : List Cond := u_ws RX2 TX2 2
theorem nmX2 : ∀ a, a < 2 → ∀ b, b < 2 → a ≠ b → (TX2 a).2.1 ≠ (TX2 b).2.1 := by decide +kernel
theorem tyX2_ok : ∀ k, k < 2 → parseFieldDescriptor (TX2 k).2.2.1 = some (tyX2 k) := by decide +kernel
abbrev cX2_init : ByteArray := prog_4_method_1_code
def yX2_init : MethodName := ⟨RX2, "<init>", "(IZ)V"⟩
def RX3 : String := "ProbeRacks$Row"
def TX3 : u_T := fun k => match k with
  | _ => ("", "", "", false)
def tyX3 : Nat → FieldType := fun k => match k with
  | _ => .int
abbrev wsX30 : List Cond := u_ws RX3 TX3 0
theorem nmX3 : ∀ a, a < 0 → ∀ b, b < 0 → a ≠ b → (TX3 a).2.1 ≠ (TX3 b).2.1 := by decide +kernel
theorem tyX3_ok : ∀ k, k < 0 → parseFieldDescriptor (TX3 k).2.2.1 = some (tyX3 k) := by decide +kernel
abbrev cX3_init : ByteArray := prog_5_method_1_code
def yX3_init : MethodName := ⟨RX3, "<init>", "(II)V"⟩
def RX4 : String := "ProbeRacks$Step"
def TX4 : u_T := fun k => match k with
  | 0 => ("ProbeRacks$Step", "op", "I", false)
  | 1 => ("ProbeRacks$Step", "a", "I", false)
  | 2 => ("ProbeRacks$Step", "i", "I", false)
  | 3 => ("ProbeRacks$Step", "b", "I", false)
  | 4 => ("ProbeRacks$Step", "k", "I", false)
  | _ => ("ProbeRacks$Step", "outcome", "I", false)
def tyX4 : Nat → FieldType := fun k => match k with
  | 0 => .int
  | 1 => .int
  | 2 => .int
  | 3 => .int
  | 4 => .int
  | _ => .int
abbrev wsX40 : List Cond := u_ws RX4 TX4 6
theorem nmX4 : ∀ a, a < 6 → ∀ b, b < 6 → a ≠ b → (TX4 a).2.1 ≠ (TX4 b).2.1 := by decide +kernel
theorem tyX4_ok : ∀ k, k < 6 → parseFieldDescriptor (TX4 k).2.2.1 = some (tyX4 k) := by decide +kernel
abbrev cX4_init : ByteArray := prog_6_method_1_code
def yX4_init : MethodName := ⟨RX4, "<init>", "()V"⟩
abbrev cX4_become : ByteArray := prog_6_method_2_code
def yX4_become : MethodName := ⟨RX4, "become", "(IIIII)V"⟩
def RX5 : String := "ProbeRacks$Thing"
def TX5 : u_T := fun k => match k with
  | _ => ("", "", "", false)
def tyX5 : Nat → FieldType := fun k => match k with
  | _ => .int
abbrev wsX50 : List Cond := u_ws RX5 TX5 0
theorem nmX5 : ∀ a, a < 0 → ∀ b, b < 0 → a ≠ b → (TX5 a).2.1 ≠ (TX5 b).2.1 := by decide +kernel
theorem tyX5_ok : ∀ k, k < 0 → parseFieldDescriptor (TX5 k).2.2.1 = some (tyX5 k) := by decide +kernel
abbrev cX5_init : ByteArray := prog_7_method_1_code
def yX5_init : MethodName := ⟨RX5, "<init>", "()V"⟩
def RX6 : String := "ProbeRacks$ThingRow"
def TX6 : u_T := fun k => match k with
  | 0 => ("ProbeRacks$Row", "kind", "I", true)
  | 1 => ("ProbeRacks$Row", "places", "I", true)
  | _ => ("ProbeRacks$ThingRow", "things", "[LProbeRacks$Thing;", true)
def tyX6 : Nat → FieldType := fun k => match k with
  | 0 => .int
  | 1 => .int
  | _ => .array (.object "ProbeRacks$Thing")
abbrev wsX60 : List Cond := u_ws RX6 TX6 3
theorem nmX6 : ∀ a, a < 3 → ∀ b, b < 3 → a ≠ b → (TX6 a).2.1 ≠ (TX6 b).2.1 := by decide +kernel
theorem tyX6_ok : ∀ k, k < 3 → parseFieldDescriptor (TX6 k).2.2.1 = some (tyX6 k) := by decide +kernel
abbrev cX6_init : ByteArray := prog_8_method_1_code
def yX6_init : MethodName := ⟨RX6, "<init>", "(II)V"⟩
def RX7 : String := "ProbeRacks"
def TX7 : u_T := fun k => match k with
  | 0 => ("ProbeRacks", "racks", "[LProbeRacks$Thing;", true)
  | 1 => ("ProbeRacks", "inGauge", "LProbeRacks$Held;", true)
  | 2 => ("ProbeRacks", "inHand", "LProbeRacks$Held;", true)
  | 3 => ("ProbeRacks", "steps", "[LProbeRacks$Step;", true)
  | 4 => ("ProbeRacks", "faultCounts", "[I", true)
  | 5 => ("ProbeRacks", "stepCount", "I", false)
  | 6 => ("ProbeRacks", "probeCount", "I", false)
  | _ => ("ProbeRacks", "latestFault", "I", false)
def tyX7 : Nat → FieldType := fun k => match k with
  | 0 => .array (.object "ProbeRacks$Thing")
  | 1 => .object "ProbeRacks$Held"
  | 2 => .object "ProbeRacks$Held"
  | 3 => .array (.object "ProbeRacks$Step")
  | 4 => .array .int
  | 5 => .int
  | 6 => .int
  | _ => .int
abbrev wsX70 : List Cond := u_ws RX7 TX7 8
theorem nmX7 : ∀ a, a < 8 → ∀ b, b < 8 → a ≠ b → (TX7 a).2.1 ≠ (TX7 b).2.1 := by decide +kernel
theorem tyX7_ok : ∀ k, k < 8 → parseFieldDescriptor (TX7 k).2.2.1 = some (tyX7 k) := by decide +kernel
abbrev cX7_init : ByteArray := prog_1_method_1_code
def yX7_init : MethodName := ⟨RX7, "<init>", "()V"⟩
abbrev cX7_rack : ByteArray := prog_1_method_2_code
def yX7_rack : MethodName := ⟨RX7, "rack", "(III)I"⟩
abbrev cX7_hang : ByteArray := prog_1_method_3_code
def yX7_hang : MethodName := ⟨RX7, "hang", "(I)I"⟩
abbrev cX7_share : ByteArray := prog_1_method_4_code
def yX7_share : MethodName := ⟨RX7, "share", "(II)I"⟩
abbrev cX7_empty : ByteArray := prog_1_method_5_code
def yX7_empty : MethodName := ⟨RX7, "empty", "(I)I"⟩
abbrev cX7_gauge : ByteArray := prog_1_method_6_code
def yX7_gauge : MethodName := ⟨RX7, "gauge", "(IJ)I"⟩
abbrev cX7_probe : ByteArray := prog_1_method_7_code
def yX7_probe : MethodName := ⟨RX7, "probe", "(Z)I"⟩
abbrev cX7_line : ByteArray := prog_1_method_8_code
def yX7_line : MethodName := ⟨RX7, "line", "(I)I"⟩
abbrev cX7_none : ByteArray := prog_1_method_9_code
def yX7_none : MethodName := ⟨RX7, "none", "()I"⟩
abbrev cX7_get : ByteArray := prog_1_method_10_code
def yX7_get : MethodName := ⟨RX7, "get", "(II)I"⟩
abbrev cX7_set : ByteArray := prog_1_method_11_code
def yX7_set : MethodName := ⟨RX7, "set", "(II)I"⟩
abbrev cX7_read : ByteArray := prog_1_method_12_code
def yX7_read : MethodName := ⟨RX7, "read", "(III)I"⟩
abbrev cX7_write : ByteArray := prog_1_method_13_code
def yX7_write : MethodName := ⟨RX7, "write", "(III)I"⟩
abbrev cX7_size : ByteArray := prog_1_method_14_code
def yX7_size : MethodName := ⟨RX7, "size", "(I)I"⟩
abbrev cX7_within : ByteArray := prog_1_method_15_code
def yX7_within : MethodName := ⟨RX7, "within", "(III)I"⟩
abbrev cX7_into : ByteArray := prog_1_method_16_code
def yX7_into : MethodName := ⟨RX7, "into", "(IIII)I"⟩
abbrev cX7_pass : ByteArray := prog_1_method_17_code
def yX7_pass : MethodName := ⟨RX7, "pass", "(III)I"⟩
abbrev cX7_takes : ByteArray := prog_1_method_18_code
def yX7_takes : MethodName := ⟨RX7, "takes", "(I)I"⟩
abbrev cX7_gives : ByteArray := prog_1_method_19_code
def yX7_gives : MethodName := ⟨RX7, "gives", "(I)I"⟩
abbrev cX7_step : ByteArray := prog_1_method_20_code
def yX7_step : MethodName := ⟨RX7, "step", "(IIIII)I"⟩
abbrev cX7_run : ByteArray := prog_1_method_21_code
def yX7_run : MethodName := ⟨RX7, "run", "(Z)I"⟩
abbrev cX7_met : ByteArray := prog_1_method_22_code
def yX7_met : MethodName := ⟨RX7, "met", "(I)I"⟩
abbrev cX7_clear : ByteArray := prog_1_method_23_code
def yX7_clear : MethodName := ⟨RX7, "clear", "()I"⟩
abbrev cX7_fault : ByteArray := prog_1_method_24_code
def yX7_fault : MethodName := ⟨RX7, "fault", "()I"⟩
abbrev cX7_faults : ByteArray := prog_1_method_25_code
def yX7_faults : MethodName := ⟨RX7, "faults", "(I)I"⟩
abbrev cX7_has : ByteArray := prog_1_method_26_code
def yX7_has : MethodName := ⟨RX7, "has", "()I"⟩
abbrev cX7_value : ByteArray := prog_1_method_27_code
def yX7_value : MethodName := ⟨RX7, "value", "()J"⟩
abbrev cX7_told : ByteArray := prog_1_method_28_code
def yX7_told : MethodName := ⟨RX7, "told", "(I)I"⟩
abbrev cX7_same : ByteArray := prog_1_method_29_code
def yX7_same : MethodName := ⟨RX7, "same", "(I)I"⟩
abbrev cX7_isRack : ByteArray := prog_1_method_30_code
def yX7_isRack : MethodName := ⟨RX7, "isRack", "(I)Z"⟩
abbrev cX7_isNumberKind : ByteArray := prog_1_method_31_code
def yX7_isNumberKind : MethodName := ⟨RX7, "isNumberKind", "(I)Z"⟩
abbrev cX7_goesInto : ByteArray := prog_1_method_32_code
def yX7_goesInto : MethodName := ⟨RX7, "goesInto", "(II)Z"⟩
abbrev cX7_asKind : ByteArray := prog_1_method_33_code
def yX7_asKind : MethodName := ⟨RX7, "asKind", "(IJ)J"⟩
abbrev cX7_answer : ByteArray := prog_1_method_34_code
def yX7_answer : MethodName := ⟨RX7, "answer", "(II)I"⟩
abbrev cX7_countFault : ByteArray := prog_1_method_35_code
def yX7_countFault : MethodName := ⟨RX7, "countFault", "(I)V"⟩
abbrev cX7_rowFault : ByteArray := prog_1_method_36_code
def yX7_rowFault : MethodName := ⟨RX7, "rowFault", "(LProbeRacks$Thing;)I"⟩
abbrev cX7_placeFault : ByteArray := prog_1_method_37_code
def yX7_placeFault : MethodName := ⟨RX7, "placeFault", "(LProbeRacks$Thing;I)I"⟩
abbrev cX7_placesOf : ByteArray := prog_1_method_38_code
def yX7_placesOf : MethodName := ⟨RX7, "placesOf", "(LProbeRacks$Thing;)I"⟩
abbrev cX7_getPlace : ByteArray := prog_1_method_39_code
def yX7_getPlace : MethodName := ⟨RX7, "getPlace", "(LProbeRacks$Thing;ILProbeRacks$Held;)I"⟩
abbrev cX7_setPlace : ByteArray := prog_1_method_40_code
def yX7_setPlace : MethodName := ⟨RX7, "setPlace", "(LProbeRacks$Thing;ILProbeRacks$Held;)I"⟩
abbrev cX7_setNumber : ByteArray := prog_1_method_41_code
def yX7_setNumber : MethodName := ⟨RX7, "setNumber", "(LProbeRacks$NumberRow;ILProbeRacks$Held;)I"⟩
abbrev cX7_setThing : ByteArray := prog_1_method_42_code
def yX7_setThing : MethodName := ⟨RX7, "setThing", "(LProbeRacks$ThingRow;ILProbeRacks$Held;)I"⟩
abbrev cX7_readPlace : ByteArray := prog_1_method_43_code
def yX7_readPlace : MethodName := ⟨RX7, "readPlace", "(LProbeRacks$Thing;IILProbeRacks$Held;)I"⟩
abbrev cX7_writePlace : ByteArray := prog_1_method_44_code
def yX7_writePlace : MethodName := ⟨RX7, "writePlace", "(LProbeRacks$Thing;IIJ)I"⟩
abbrev cX7_readWithin : ByteArray := prog_1_method_45_code
def yX7_readWithin : MethodName := ⟨RX7, "readWithin", "(LProbeRacks$Thing;II)I"⟩
abbrev cX7_writeWithin : ByteArray := prog_1_method_46_code
def yX7_writeWithin : MethodName := ⟨RX7, "writeWithin", "(LProbeRacks$Thing;III)I"⟩
abbrev cX7_takeInner : ByteArray := prog_1_method_47_code
def yX7_takeInner : MethodName := ⟨RX7, "takeInner", "(LProbeRacks$Thing;I)I"⟩
abbrev cX7_passPlace : ByteArray := prog_1_method_48_code
def yX7_passPlace : MethodName := ⟨RX7, "passPlace", "(LProbeRacks$Thing;LProbeRacks$Thing;II)I"⟩
abbrev cX7_movePlace : ByteArray := prog_1_method_49_code
def yX7_movePlace : MethodName := ⟨RX7, "movePlace", "(LProbeRacks$Thing;ILProbeRacks$Thing;I)I"⟩
abbrev cX7_kindsTaken : ByteArray := prog_1_method_50_code
def yX7_kindsTaken : MethodName := ⟨RX7, "kindsTaken", "(LProbeRacks$Thing;)I"⟩
abbrev cX7_kindsGiven : ByteArray := prog_1_method_51_code
def yX7_kindsGiven : MethodName := ⟨RX7, "kindsGiven", "(LProbeRacks$Thing;)I"⟩
abbrev cX7_forgetRun : ByteArray := prog_1_method_52_code
def yX7_forgetRun : MethodName := ⟨RX7, "forgetRun", "()V"⟩
abbrev cX7_doStep : ByteArray := prog_1_method_53_code
def yX7_doStep : MethodName := ⟨RX7, "doStep", "(LProbeRacks$Step;)I"⟩
def RX8 : String := "ProbeRacksModel"
def TX8 : u_T := fun k => match k with
  | 0 => ("ProbeRacksModel", "thing", "[I", true)
  | 1 => ("ProbeRacksModel", "which", "[I", true)
  | 2 => ("ProbeRacksModel", "has", "I", false)
  | 3 => ("ProbeRacksModel", "hasKind", "I", false)
  | 4 => ("ProbeRacksModel", "hasValue", "J", false)
  | 5 => ("ProbeRacksModel", "hasWhich", "I", false)
  | 6 => ("ProbeRacksModel", "probes", "I", false)
  | 7 => ("ProbeRacksModel", "isFine", "[Z", true)
  | 8 => ("ProbeRacksModel", "rows", "I", false)
  | 9 => ("ProbeRacksModel", "kindOf", "[I", true)
  | 10 => ("ProbeRacksModel", "sizeOf", "[I", true)
  | 11 => ("ProbeRacksModel", "place", "[J", true)
  | 12 => ("ProbeRacksModel", "steps", "I", false)
  | 13 => ("ProbeRacksModel", "stepOf", "[I", true)
  | 14 => ("ProbeRacksModel", "done", "I", false)
  | 15 => ("ProbeRacksModel", "doneFault", "[I", true)
  | 16 => ("ProbeRacksModel", "fault", "I", false)
  | 17 => ("ProbeRacksModel", "faults", "[I", true)
  | 18 => ("ProbeRacksModel", "foundThing", "I", false)
  | _ => ("ProbeRacksModel", "foundWhich", "I", false)
def tyX8 : Nat → FieldType := fun k => match k with
  | 0 => .array .int
  | 1 => .array .int
  | 2 => .int
  | 3 => .int
  | 4 => .long
  | 5 => .int
  | 6 => .int
  | 7 => .array .boolean
  | 8 => .int
  | 9 => .array .int
  | 10 => .array .int
  | 11 => .array .long
  | 12 => .int
  | 13 => .array .int
  | 14 => .int
  | 15 => .array .int
  | 16 => .int
  | 17 => .array .int
  | 18 => .int
  | _ => .int
abbrev wsX80 : List Cond := u_ws RX8 TX8 20
theorem nmX8 : ∀ a, a < 20 → ∀ b, b < 20 → a ≠ b → (TX8 a).2.1 ≠ (TX8 b).2.1 := by decide +kernel
theorem tyX8_ok : ∀ k, k < 20 → parseFieldDescriptor (TX8 k).2.2.1 = some (tyX8 k) := by decide +kernel
abbrev cX8_init : ByteArray := prog_10_method_1_code
def yX8_init : MethodName := ⟨RX8, "<init>", "()V"⟩
abbrev cX8_beyond : ByteArray := prog_10_method_2_code
def yX8_beyond : MethodName := ⟨RX8, "beyond", "(JJJ)Z"⟩
abbrev cX8_no : ByteArray := prog_10_method_3_code
def yX8_no : MethodName := ⟨RX8, "no", "(I)Z"⟩
abbrev cX8_goes : ByteArray := prog_10_method_4_code
def yX8_goes : MethodName := ⟨RX8, "goes", "(II)Z"⟩
abbrev cX8_as : ByteArray := prog_10_method_5_code
def yX8_as : MethodName := ⟨RX8, "as", "(IJ)J"⟩
abbrev cX8_met1 : ByteArray := prog_10_method_6_code
def yX8_met1 : MethodName := ⟨RX8, "met1", "(I)I"⟩
abbrev cX8_answer : ByteArray := prog_10_method_7_code
def yX8_answer : MethodName := ⟨RX8, "answer", "(II)I"⟩
abbrev cX8_newRow : ByteArray := prog_10_method_8_code
def yX8_newRow : MethodName := ⟨RX8, "newRow", "(II)I"⟩
abbrev cX8_rack : ByteArray := prog_10_method_9_code
def yX8_rack : MethodName := ⟨RX8, "rack", "(III)I"⟩
abbrev cX8_hang : ByteArray := prog_10_method_10_code
def yX8_hang : MethodName := ⟨RX8, "hang", "(I)I"⟩
abbrev cX8_share : ByteArray := prog_10_method_11_code
def yX8_share : MethodName := ⟨RX8, "share", "(II)I"⟩
abbrev cX8_empty : ByteArray := prog_10_method_12_code
def yX8_empty : MethodName := ⟨RX8, "empty", "(I)I"⟩
abbrev cX8_hold : ByteArray := prog_10_method_13_code
def yX8_hold : MethodName := ⟨RX8, "hold", "(IJ)V"⟩
abbrev cX8_gauge : ByteArray := prog_10_method_14_code
def yX8_gauge : MethodName := ⟨RX8, "gauge", "(IJ)I"⟩
abbrev cX8_probe : ByteArray := prog_10_method_15_code
def yX8_probe : MethodName := ⟨RX8, "probe", "(Z)I"⟩
abbrev cX8_line : ByteArray := prog_10_method_16_code
def yX8_line : MethodName := ⟨RX8, "line", "(I)I"⟩
abbrev cX8_none : ByteArray := prog_10_method_17_code
def yX8_none : MethodName := ⟨RX8, "none", "()I"⟩
abbrev cX8_getFault : ByteArray := prog_10_method_18_code
def yX8_getFault : MethodName := ⟨RX8, "getFault", "(III)I"⟩
abbrev cX8_isNumbers : ByteArray := prog_10_method_19_code
def yX8_isNumbers : MethodName := ⟨RX8, "isNumbers", "(I)Z"⟩
abbrev cX8_readFault : ByteArray := prog_10_method_20_code
def yX8_readFault : MethodName := ⟨RX8, "readFault", "(IIII)I"⟩
abbrev cX8_writeFault : ByteArray := prog_10_method_21_code
def yX8_writeFault : MethodName := ⟨RX8, "writeFault", "(IIII)I"⟩
abbrev cX8_unfit : ByteArray := prog_10_method_22_code
def yX8_unfit : MethodName := ⟨RX8, "unfit", "(I)Z"⟩
abbrev cX8_setFault : ByteArray := prog_10_method_23_code
def yX8_setFault : MethodName := ⟨RX8, "setFault", "(II)I"⟩
abbrev cX8_gets : ByteArray := prog_10_method_24_code
def yX8_gets : MethodName := ⟨RX8, "gets", "(II)V"⟩
abbrev cX8_doGet : ByteArray := prog_10_method_25_code
def yX8_doGet : MethodName := ⟨RX8, "doGet", "(II)I"⟩
abbrev cX8_get : ByteArray := prog_10_method_26_code
def yX8_get : MethodName := ⟨RX8, "get", "(II)I"⟩
abbrev cX8_doSet : ByteArray := prog_10_method_27_code
def yX8_doSet : MethodName := ⟨RX8, "doSet", "(II)I"⟩
abbrev cX8_set : ByteArray := prog_10_method_28_code
def yX8_set : MethodName := ⟨RX8, "set", "(II)I"⟩
abbrev cX8_doRead : ByteArray := prog_10_method_29_code
def yX8_doRead : MethodName := ⟨RX8, "doRead", "(IIII)I"⟩
abbrev cX8_read : ByteArray := prog_10_method_30_code
def yX8_read : MethodName := ⟨RX8, "read", "(III)I"⟩
abbrev cX8_doWrite : ByteArray := prog_10_method_31_code
def yX8_doWrite : MethodName := ⟨RX8, "doWrite", "(IIIIJ)I"⟩
abbrev cX8_write : ByteArray := prog_10_method_32_code
def yX8_write : MethodName := ⟨RX8, "write", "(III)I"⟩
abbrev cX8_sizeFault : ByteArray := prog_10_method_33_code
def yX8_sizeFault : MethodName := ⟨RX8, "sizeFault", "(I)I"⟩
abbrev cX8_size : ByteArray := prog_10_method_34_code
def yX8_size : MethodName := ⟨RX8, "size", "(I)I"⟩
abbrev cX8_finds : ByteArray := prog_10_method_35_code
def yX8_finds : MethodName := ⟨RX8, "finds", "(II)I"⟩
abbrev cX8_doWithin : ByteArray := prog_10_method_36_code
def yX8_doWithin : MethodName := ⟨RX8, "doWithin", "(III)I"⟩
abbrev cX8_within : ByteArray := prog_10_method_37_code
def yX8_within : MethodName := ⟨RX8, "within", "(III)I"⟩
abbrev cX8_into : ByteArray := prog_10_method_38_code
def yX8_into : MethodName := ⟨RX8, "into", "(IIII)I"⟩
abbrev cX8_pass : ByteArray := prog_10_method_39_code
def yX8_pass : MethodName := ⟨RX8, "pass", "(III)I"⟩
abbrev cX8_firstFault : ByteArray := prog_10_method_40_code
def yX8_firstFault : MethodName := ⟨RX8, "firstFault", "(I)I"⟩
abbrev cX8_kinds : ByteArray := prog_10_method_41_code
def yX8_kinds : MethodName := ⟨RX8, "kinds", "(IZ)I"⟩
abbrev cX8_takes : ByteArray := prog_10_method_42_code
def yX8_takes : MethodName := ⟨RX8, "takes", "(I)I"⟩
abbrev cX8_gives : ByteArray := prog_10_method_43_code
def yX8_gives : MethodName := ⟨RX8, "gives", "(I)I"⟩
abbrev cX8_step : ByteArray := prog_10_method_44_code
def yX8_step : MethodName := ⟨RX8, "step", "(IIIII)I"⟩
abbrev cX8_does : ByteArray := prog_10_method_45_code
def yX8_does : MethodName := ⟨RX8, "does", "(I)I"⟩
abbrev cX8_moves : ByteArray := prog_10_method_46_code
def yX8_moves : MethodName := ⟨RX8, "moves", "(IIII)I"⟩
abbrev cX8_run : ByteArray := prog_10_method_47_code
def yX8_run : MethodName := ⟨RX8, "run", "(Z)I"⟩
abbrev cX8_met : ByteArray := prog_10_method_48_code
def yX8_met : MethodName := ⟨RX8, "met", "(I)I"⟩
abbrev cX8_clear : ByteArray := prog_10_method_49_code
def yX8_clear : MethodName := ⟨RX8, "clear", "()I"⟩
abbrev cX8_fault : ByteArray := prog_10_method_50_code
def yX8_fault : MethodName := ⟨RX8, "fault", "()I"⟩
abbrev cX8_faults : ByteArray := prog_10_method_51_code
def yX8_faults : MethodName := ⟨RX8, "faults", "(I)I"⟩
abbrev cX8_has : ByteArray := prog_10_method_52_code
def yX8_has : MethodName := ⟨RX8, "has", "()I"⟩
abbrev cX8_value : ByteArray := prog_10_method_53_code
def yX8_value : MethodName := ⟨RX8, "value", "()J"⟩
abbrev cX8_told : ByteArray := prog_10_method_54_code
def yX8_told : MethodName := ⟨RX8, "told", "(I)I"⟩
abbrev cX8_same : ByteArray := prog_10_method_55_code
def yX8_same : MethodName := ⟨RX8, "same", "(I)I"⟩
def RL : String := "ProbeRacksLaw"
abbrev cL_law : ByteArray := code
def yL_law : MethodName := ⟨RL, "law", "([I)Z"⟩
abbrev vwCl : List vw_C := [(RX0, TX0, 3), (RX1, TX1, 3), (RX2, TX2, 2), (RX4, TX4, 6), (RX6, TX6, 3), (RX7, TX7, 8), (RX8, TX8, 20)]
/-! THE CLAIM OUT OF ONE WALK OF THE LAW'S BODY. Your part is whole_start (and what it stands on); all else here is the same for every law, but numbers. -/
def R_law : String := "ProbeRacksLaw"
def lw_P (b : Addr) (xs : List Int32) (args : Array Value) (s : State) : Prop := args = #[.ref b] ∧ s.IntsAt b xs ∧ xs.length ≤ 3072 ∧ (Jvm.Cond.and given_1 narrow_1).before args s = true
def lw_Q (_ : Array Value) (s : State) (o : Outcome) (t : State) : Prop := o = .returned (some (.int 1)) ∧ Framed s o t [] 600000 7302250
def lw_Z (below : List Frame) (a : Array Value) (s : State) : State → Prop := fun t => ∃ o, t.status = .running ∧ Ended t below o ∧ lw_Q a s o t
/-- the law's own end, with 1 on the stack, nothing written that was there before, its room as the claim has it -/
theorem lw_ret {p : Program} {l : Launch} {e : Env} {s : State} {m : MethodId} {below : List Frame} {meth : Method} {c : Code} {b : Nat} (hx : p.tables.exec = Jvm.exec) (hb : c.code = code) (hr : meth.sig.returnType = ret) (hlocks : meth.locks = false) {pc : Nat} {H : Heap} {ls : Array Slot} (hdg : decode code pc = .ok (.ireturn, 1)) : W p l e room_1 s m #[Value.ref b] below meth c H [] 600000 7302250 (lw_Z below #[Value.ref b] s) (F0 m pc ls [.int 1]) := by
  intro T hT X
  obtain ⟨fs, hret, hrun, hended, hW, hframe⟩ := X.leave (v := some (.int 1)) (hlocks := hlocks) (fun h => by rw [hr] at h; cases h)
  have hmeth' : T.vm.method? m = some meth := X.method'
  refine ⟨T.setFrames fs, ?_, .returned (some (.int 1)), hrun, hended, rfl, ⟨_, rfl⟩, hW, hframe⟩
  jvm_step X.here [X.here.top, hx, hb, hdg, hmeth', hr, ret, narrow_b1]
  (try refine ⟨rfl, ?_⟩); (try refine ⟨rfl, ?_⟩)
  first | (intro acts; rw [hret _ acts rfl rfl rfl]) | rw [hret _ _ rfl rfl rfl]
  exact Steps.refl _
/-- what holds at the law's entry: the machine, the code, the tables' words (any of lw_tbl by 'hts w (by decide +kernel)'), the script of L ints xs at the cell b, what the Statement gives of the start (any of its parts by flat_of_before) -/
def lw_At (p : Program) (s : State) (m : MethodId) (meth : Method) (c : Code) (b L : Nat) (xs : Nat → Int32) : Prop :=
  p.tables.exec = Jvm.exec ∧ c.code = code ∧ meth.sig.returnType = ret ∧ c.maxLocals = 4 ∧ s.vm.findClass R_law = some m.cls ∧ (∀ w ∈ lw_tbl, w.before #[Value.ref b] s = true) ∧ va_X b L xs s s.heap ∧ b < s.heap.size ∧ meth.locks = false ∧ (Jvm.Cond.and given_1 narrow_1).before #[Value.ref b] s = true
end
section
def zw : List Cond := lw_tbl.filter goodWord
theorem zw_in {w : Cond} (i : Nat) (h : lw_tbl[i]? = some w) (hg : goodWord w = true) : w ∈ zw := List.mem_filter.mpr ⟨List.mem_of_getElem? h, hg⟩
theorem zw_good {w : Cond} (h : w ∈ zw) : (w.onTables && w.keeps) = true ∨ ∃ ty, w = .arrayClass ty := good_of_word (List.mem_filter.mp h).2
/-! the light judgement: a method's frame over an abstract heap (contents by address, size); one context for all methods -/
abbrev zh_H : Type := (Nat → va_E) × Nat
abbrev zh_G : Type := va_G × (Nat → ClassId) × Nat × Heap × Nat
abbrev zg_c (G : zh_G) : Nat → ClassId := G.2.1
abbrev zg_B (G : zh_G) : Nat := G.2.2.1
abbrev zg_O (G : zh_G) : Heap := G.2.2.2.1
abbrev zg_a (G : zh_G) : Nat := G.2.2.2.2
def zg_tab : Nat → Int32 := fun k => match k with
  | 0 => 1 | 1 => 250 | 2 => 244 | 3 => 248 | 4 => 240 | 5 => 224 | 6 => 192 | 7 => 128 | 8 => 256 | 9 => 768 | _ => 1024
def zh_tys (G : zh_G) : List (ClassId × FieldType) := [(zg_c G 0, .int), (zg_c G 1, .long), (zg_c G 2, .boolean), (zg_c G 3, .object RX5), (zg_c G 4, .object RX4)]
def zh_nF : List (String × Nat × String × String × String) := [(RX7, 76, RX0, "kind", "I"), (RX7, 90, RX0, "amount", "J"), (RX7, 51, RX0, "thing", "LProbeRacks$Thing;"), (RX7, 197, RX4, "op", "I"), (RX7, 194, RX4, "a", "I"), (RX7, 200, RX4, "i", "I"), (RX7, 206, RX4, "b", "I"), (RX7, 203, RX4, "k", "I"), (RX7, 145, RX4, "outcome", "I"), (RX7, 165, RX1, "numbers", "[J"), (RX7, 169, RX6, "things", "[LProbeRacks$Thing;"), (RX0, 33, RX2, "number", "I"), (RX0, 29, RX2, "fine", "Z"), (RX7, 154, RX2, "fine", "Z")]
def zh_nM : List (String × Nat × MethodName) := [(RX7, 17, yX0_init), (RX7, 31, yX4_init), (RX7, 45, yX1_init), (RX3, 1, yX5_init), (RX7, 50, yX6_init), (RX7, 55, yX0_holdNumber), (RX0, 15, yX7_asKind), (RX7, 65, yX2_init), (RX2, 1, yX5_init), (RX7, 68, yX0_holdThing), (RX7, 134, yX4_become)]
def zh_cs : List (String × String) := [(RX2, RX2), (RX1, RX3), (RX6, RX3), (RX1, RX1), (RX6, RX6), (RX1, RX5), (RX2, RX5), (RX6, RX5)]
def zh_nc : List (String × String) := [(RX1, RX2), (RX6, RX2), (RX2, RX3), (RX6, RX1), (RX2, RX1), (RX1, RX6), (RX2, RX6)]
def zh_K (G : zh_G) (U : State) : Prop := va_K G.1 vwCl (zh_tys G) U ∧ (∀ q ∈ zh_nF, va_Nw (.fieldLinkNest q.1 q.2.1 q.2.2.1 q.2.2.2.1 q.2.2.2.2 "ProbeRacks") U) ∧ (∀ q ∈ zh_nM, va_Nw (.methodLinkNest q.1 q.2.1 q.2.2 "ProbeRacks") U) ∧ (∀ q ∈ zh_cs, va_Nw (.castable q.1 q.2) U) ∧ (∀ q ∈ zh_nc, va_Nc q.1 q.2 U) ∧ (va_AO RX5 U ∧ va_AO RX4 U) ∧ va_Z "ProbeRacks" "GOES_INTO" "[I" (.ref (zg_a G)) (fun q => zg_B G ≤ q) U (zg_O G) ∧ va_T .int (zg_a G) 11 (fun j => .int (zg_tab j)) (fun q => zg_B G ≤ q) U (zg_O G)
theorem zh_K.warm {G : zh_G} {s U : State} (hW : s.WarmedH U.vm) (h : zh_K G s) : zh_K G U :=
  ⟨va_K.moved hW.alike h.1, fun q hq => va_Nw.warmF hW (h.2.1 q hq), fun q hq => va_Nw.warmM hW (h.2.2.1 q hq), fun q hq => va_Nw.warmC hW (h.2.2.2.1 q hq), fun q hq => va_Nc.moved hW.alike (h.2.2.2.2.1 q hq), ⟨va_AO.moved hW.alike h.2.2.2.2.2.1.1, va_AO.moved hW.alike h.2.2.2.2.2.1.2⟩, va_Z.moved hW.alike h.2.2.2.2.2.2.1, va_T.moved hW.alike h.2.2.2.2.2.2.2⟩
def zh_W (G : zh_G) (h : zh_H) (H : Heap) : Prop := H.size = h.2 ∧ zg_B G ≤ h.2 ∧ (∀ q : Nat, q < zg_B G → H[q]? = (zg_O G)[q]?) ∧ ∀ a : Nat, zg_B G ≤ a → a < h.2 → va_at G.1 vwCl (a, h.1 a) H
theorem zh_W.put {G : zh_G} {h : zh_H} {H H1 : Heap} {a : Nat} {e : va_E} (hW : zh_W G h H) (ha : zg_B G ≤ a) (hat : va_at G.1 vwCl (a, e) H1) (z : H1.size = H.size) (oq : ∀ q : Nat, q ≠ a → H1[q]? = H[q]?) : zh_W G (va_up h.1 a e, h.2) H1 := by
  refine ⟨z.trans hW.1, hW.2.1, fun q hq => ?_, fun b hb1 hb2 => ?_⟩
  · rw [oq q (by omega)]; exact hW.2.2.1 q hq
  · by_cases hba : b = a
    · subst hba; simp only [va_up, if_true]; exact hat
    · simp only [va_up, if_neg hba]; exact (hW.2.2.2 b hb1 hb2).kept (oq b hba)
theorem zh_W.push {G : zh_G} {h : zh_H} {H H1 : Heap} {e : va_E} (hW : zh_W G h H) (hat : va_at G.1 vwCl (h.2, e) H1) (z : H1.size = H.size + 1) (oq : ∀ q : Nat, q < H.size → H1[q]? = H[q]?) : zh_W G (va_up h.1 h.2 e, h.2 + 1) H1 := by
  refine ⟨by rw [z, hW.1], Nat.le_trans hW.2.1 (Nat.le_succ _), fun q hq => ?_, fun b hb1 hb2 => ?_⟩
  · rw [oq q (by rw [hW.1]; exact Nat.lt_of_lt_of_le hq hW.2.1)]; exact hW.2.2.1 q hq
  · by_cases hba : b = h.2
    · subst hba; simp only [va_up, if_true]; exact hat
    · simp only [va_up, if_neg hba]
      have hb3 : b < h.2 + 1 := hb2
      have hlt : b < h.2 := by omega
      exact (hW.2.2.2 b hb1 hlt).kept (oq b (by rw [hW.1]; exact hlt))
def zv_rt (cc : ByteArray) (r : Option FieldType) (pc : Nat) (v : Option Value) : Prop :=
  (∃ x, v = some (.int x) ∧ decode cc pc = .ok (.ireturn, 1) ∧ ∃ ty, r = some ty ∧ narrow ty (.int x) = .int x) ∨ (∃ x, v = some (.long x) ∧ r = some .long ∧ decode cc pc = .ok (.lreturn, 1)) ∨ (v = none ∧ r = none ∧ decode cc pc = .ok (.return_, 1))
def zv_ctx (G : zh_G) (l : Launch) (y : MethodName) (cc : ByteArray) (n : Nat) (r : Option FieldType) (d : Nat) (Q : Option Value → zh_H → Prop) (p : Program) (e : Env) (R : Room) (s : State) (m : MethodId) (args : Array Value) (below : List Frame) (meth : Method) (c : Code) (Qf : State → Prop) : Prop :=
  (p.tables.exec = Jvm.exec ∧ c.code = cc ∧ c.maxLocals = n ∧ s.vm.findClass y.cls = some m.cls ∧ meth.name = y.name) ∧ (∀ w ∈ zw, w.before args s = true) ∧ zh_K G s ∧ (d ≤ R.frames ∧ 27 * d ≤ R.locals) ∧
  (∀ (v : Option Value) (h' : zh_H) (H' : Heap) (locs' : List Loc) (pc' : Nat) (ls' : Array Slot), Q v h' → zh_W G h' H' → (∀ q ∈ locs', zg_B G ≤ q.base) → zv_rt cc r pc' v → W p l e R s m args below meth c H' locs' R.cells R.slots Qf (F0 m pc' ls' v.toList))
def zv (G : zh_G) (l : Launch) (y : MethodName) (cc : ByteArray) (n : Nat) (r : Option FieldType) (d mc ms pc : Nat) (lv : List (Nat × Value)) (st : List Value) (h : zh_H) (Q : Option Value → zh_H → Prop) : Prop :=
  ∀ (p : Program) (e : Env) (R : Room) (s : State) (m : MethodId) (args : Array Value) (below : List Frame) (meth : Method) (c : Code) (Qf : State → Prop), zv_ctx G l y cc n r d Q p e R s m args below meth c Qf →
  ∀ (H : Heap) (locs : List Loc) (cells slots : Nat) (ls : Array Slot), zh_W G h H → (∀ q ∈ locs, zg_B G ≤ q.base) → cells + mc ≤ R.cells → slots + ms ≤ R.slots → lv_has ls n lv → W p l e R s m args below meth c H locs cells slots Qf (F0 m pc ls st)
def zc (G : zh_G) (l : Launch) (y : MethodName) (cc : ByteArray) (n : Nat) (r : Option FieldType) (d : Nat) (av : List Value) (h : zh_H) (mc ms : Nat) (Q : Option Value → zh_H → Prop) : Prop :=
  Met l y (.code y cc n r :: zw) { frames := d, cells := mc, slots := ms, locals := 27 * d } (va_Pc av (fun U => zh_K G U ∧ zh_W G h U.heap)) (fun _ _ oc t => ∃ (v : Option Value) (h' : zh_H), oc = .returned v ∧ Q v h' ∧ zh_W G h' t.heap) mc ms (fun q => zg_B G ≤ q)
def zl (lv : List (Nat × Value)) (i : Nat) : Option Value := match lv with
  | [] => none
  | q :: t => if q.1 = i then some q.2 else zl t i
theorem zl_mem {lv : List (Nat × Value)} {i : Nat} {v : Value} (h : zl lv i = some v) : (i, v) ∈ lv := by
  induction lv with
  | nil => simp [zl] at h
  | cons q t ih =>
    unfold zl at h
    split at h
    · next hq => cases h; subst hq; exact List.mem_cons_self
    · exact List.mem_cons_of_mem _ (ih h)
def zs1 (lv : List (Nat × Value)) (i : Nat) (v : Value) : List (Nat × Value) := (i, v) :: lv.filter (fun q => !(q.1 == i) && !(q.1 + 1 == i && q.2.category == 2))
def zs2 (lv : List (Nat × Value)) (i : Nat) (v : Value) : List (Nat × Value) := (i, v) :: lv.filter (fun q => !(q.1 == i) && (!(q.1 == i + 1) && !(q.1 + 1 == i && q.2.category == 2)))
section ZV
variable {G : zh_G} {l : Launch} {y : MethodName} {cc : ByteArray} {n : Nat} {r : Option FieldType} {d mc ms pc : Nat} {lv : List (Nat × Value)} {st : List Value} {h : zh_H} {Q : Option Value → zh_H → Prop}
theorem zc.of (hp : plainName y.cls = true) {av : List Value} (hsl : (lg_sl av).length ≤ n) (kk : zv G l y cc n r d mc ms 0 (lv_args 0 av) [] h Q) : zc G l y cc n r d av h mc ms Q := by
  refine Met.ofW (cc := cc) (maxL := n) (ret := r) hp rfl ?_
  intro p e s m args below meth c s₁ B hml hv
  obtain ⟨rfl, hK, hW⟩ := hv
  have hts := atoms_spec (ws := .code y cc n r :: zw) B.pre
  have hlocks := B.notSynchronized
  have hl := lv_entry av (n := n) hsl
  rw [lg_entry_eq]
  generalize (lg_sl av ++ List.replicate (n - (lg_sl av).length) Slot.unset).toArray = ls at hl ⊢
  refine kk p e _ s m _ below meth c _ ⟨⟨B.exec, B.bytes, hml, findClass_of_methodNamed B.named, (name_of_methodNamed B.named B.method).1⟩, fun w hw => hts w (List.mem_cons_of_mem _ hw), hK, ⟨Nat.le_refl _, Nat.le_refl _⟩, ?_⟩ s.heap [] 0 0 ls hW (fun q hq => by cases hq) (by simp [headSpec]) (by simp [headSpec]) hl
  intro v h' H' locs' pc' ls' hq hW' hL' hrt
  rcases hrt with ⟨x, rfl, hd, ty, hty, hn⟩ | ⟨x, rfl, hty, hd⟩ | ⟨rfl, hty, hd⟩
  · exact W.zret B.exec B.bytes (B.returns.trans hty) hn (fun t ht _ => ⟨_, h', rfl, hq, by rw [ht]; exact hW'⟩) hL' hd
  · exact W.lret B.exec B.bytes (B.returns.trans hty) (fun t ht _ => ⟨_, h', rfl, hq, by rw [ht]; exact hW'⟩) hL' hd
  · exact W.vret B.exec B.bytes (B.returns.trans hty) (fun t ht _ => ⟨_, h', rfl, hq, by rw [ht]; exact hW'⟩) hL' hd
theorem zc.weaken {Q2 : Option Value → zh_H → Prop} {av : List Value} (hq : ∀ v h', Q v h' → Q2 v h') (hM : zc G l y cc n r d av h mc ms Q) : zc G l y cc n r d av h mc ms Q2 := by
  intro p e ha hc hk s m args below hf hs hP hK
  obtain ⟨t, o, h1, h2, h3, ⟨v, h', h4, h5, h6⟩, h7⟩ := hM p e ha hc hk s m args below hf hs hP hK
  exact ⟨t, o, h1, h2, h3, ⟨v, h', h4, hq v h' h5, h6⟩, h7⟩
theorem zv_lv (lv' : List (Nat × Value)) (hsub : ∀ q ∈ lv', q ∈ lv) (kk : zv G l y cc n r d mc ms pc lv' st h Q) : zv G l y cc n r d mc ms pc lv st h Q := by
  intro p e R s m args below meth c Qf C H locs cells slots ls hW hL h1 h2 hl
  exact kk p e R s m args below meth c Qf C H locs cells slots ls hW hL h1 h2 ⟨hl.1, hl.2.1, fun q hq => hl.2.2 q (hsub q hq)⟩
theorem zv_ret {v : Option Value} (hq : Q v h) (hrt : zv_rt cc r pc v) : zv G l y cc n r d mc ms pc lv v.toList h Q := by
  intro p e R s m args below meth c Qf C H locs cells slots ls hW hL h1 h2 hl
  exact W.widen (by omega) (by omega) (C.2.2.2.2 v h H locs pc ls hq hW hL hrt)
theorem zv_ireturn {x : Int32} (hd : decode cc pc = .ok (.ireturn, 1)) (hr : r = some .int) (hq : Q (some (.int x)) h) : zv G l y cc n r d mc ms pc lv [.int x] h Q := zv_ret (v := some (.int x)) hq (Or.inl ⟨x, rfl, hd, _, hr, rfl⟩)
theorem zv_zreturn {x : Int32} (hd : decode cc pc = .ok (.ireturn, 1)) (hr : r = some .boolean) (hn : narrow .boolean (.int x) = .int x) (hq : Q (some (.int x)) h) : zv G l y cc n r d mc ms pc lv [.int x] h Q := zv_ret (v := some (.int x)) hq (Or.inl ⟨x, rfl, hd, _, hr, hn⟩)
theorem zv_lreturn {x : Int64} (hd : decode cc pc = .ok (.lreturn, 1)) (hr : r = some .long) (hq : Q (some (.long x)) h) : zv G l y cc n r d mc ms pc lv [.long x] h Q := zv_ret (v := some (.long x)) hq (Or.inr (Or.inl ⟨x, rfl, hr, hd⟩))
theorem zv_return (hd : decode cc pc = .ok (.return_, 1)) (hr : r = none) (hq : Q none h) : zv G l y cc n r d mc ms pc lv [] h Q := zv_ret (v := none) hq (Or.inr (Or.inr ⟨rfl, hr, hd⟩))
theorem zv_iconst {k : Int} (hd : decode cc pc = .ok (.iconst k, 1)) (kk : zv G l y cc n r d mc ms (pc + 1) lv (.int (Int32.ofInt k) :: st) h Q) : zv G l y cc n r d mc ms pc lv st h Q := by
  intro p e R s m args below meth c Qf C H locs cells slots ls hW hL h1 h2 hl
  exact lv_iconst C.1.1 C.1.2.1 hd rfl (kk p e R s m args below meth c Qf C H locs cells slots ls hW hL h1 h2 hl)
theorem zv_bipush {k : Int} (hd : decode cc pc = .ok (.bipush k, 2)) (kk : zv G l y cc n r d mc ms (pc + 2) lv (.int (Int8.ofInt k).toInt32 :: st) h Q) : zv G l y cc n r d mc ms pc lv st h Q := by
  intro p e R s m args below meth c Qf C H locs cells slots ls hW hL h1 h2 hl
  exact lv_bipush C.1.1 C.1.2.1 hd rfl (kk p e R s m args below meth c Qf C H locs cells slots ls hW hL h1 h2 hl)
theorem zv_sipush {k : Int} (hd : decode cc pc = .ok (.sipush k, 3)) (kk : zv G l y cc n r d mc ms (pc + 3) lv (.int (Int16.ofInt k).toInt32 :: st) h Q) : zv G l y cc n r d mc ms pc lv st h Q := by
  intro p e R s m args below meth c Qf C H locs cells slots ls hW hL h1 h2 hl
  exact lv_sipush C.1.1 C.1.2.1 hd rfl (kk p e R s m args below meth c Qf C H locs cells slots ls hW hL h1 h2 hl)
theorem zv_iconstv {k : Int} {v : Int32} (hd : decode cc pc = .ok (.iconst k, 1)) (hv : Int32.ofInt k = v) (kk : zv G l y cc n r d mc ms (pc + 1) lv (.int v :: st) h Q) : zv G l y cc n r d mc ms pc lv st h Q := by
  intro p e R s m args below meth c Qf C H locs cells slots ls hW hL h1 h2 hl
  exact lv_iconst C.1.1 C.1.2.1 hd hv (kk p e R s m args below meth c Qf C H locs cells slots ls hW hL h1 h2 hl)
theorem zv_bipushv {k : Int} {v : Int32} (hd : decode cc pc = .ok (.bipush k, 2)) (hv : (Int8.ofInt k).toInt32 = v) (kk : zv G l y cc n r d mc ms (pc + 2) lv (.int v :: st) h Q) : zv G l y cc n r d mc ms pc lv st h Q := by
  intro p e R s m args below meth c Qf C H locs cells slots ls hW hL h1 h2 hl
  exact lv_bipush C.1.1 C.1.2.1 hd hv (kk p e R s m args below meth c Qf C H locs cells slots ls hW hL h1 h2 hl)
theorem zv_sipushv {k : Int} {v : Int32} (hd : decode cc pc = .ok (.sipush k, 3)) (hv : (Int16.ofInt k).toInt32 = v) (kk : zv G l y cc n r d mc ms (pc + 3) lv (.int v :: st) h Q) : zv G l y cc n r d mc ms pc lv st h Q := by
  intro p e R s m args below meth c Qf C H locs cells slots ls hW hL h1 h2 hl
  exact lv_sipush C.1.1 C.1.2.1 hd hv (kk p e R s m args below meth c Qf C H locs cells slots ls hW hL h1 h2 hl)
theorem zv_lconstv {k : Fin 2} {v : Int64} (hd : decode cc pc = .ok (.lconst k, 1)) (hv : Int64.ofNat (k : Nat) = v) (kk : zv G l y cc n r d mc ms (pc + 1) lv (.long v :: st) h Q) : zv G l y cc n r d mc ms pc lv st h Q := by
  intro p e R s m args below meth c Qf C H locs cells slots ls hW hL h1 h2 hl
  exact lv_lconst C.1.1 C.1.2.1 hd hv (kk p e R s m args below meth c Qf C H locs cells slots ls hW hL h1 h2 hl)
theorem zv_ldc {k : Nat} {v : Int32} (hd : decode cc pc = .ok (.ldc k, 2)) (hw : Cond.constant y.cls k v ∈ zw) (kk : zv G l y cc n r d mc ms (pc + 2) lv (.int v :: st) h Q) : zv G l y cc n r d mc ms pc lv st h Q := by
  intro p e R s m args below meth c Qf C H locs cells slots ls hW hL h1 h2 hl
  exact lv_ldc C.1.1 C.1.2.1 C.1.2.2.2.1 (C.2.1 _ hw) hd (kk p e R s m args below meth c Qf C H locs cells slots ls hW hL h1 h2 hl)
theorem zv_ldc2 {k : Nat} {v : Int64} (hd : decode cc pc = .ok (.ldc2_w k, 3)) (hw : Cond.constantLong y.cls k v ∈ zw) (kk : zv G l y cc n r d mc ms (pc + 3) lv (.long v :: st) h Q) : zv G l y cc n r d mc ms pc lv st h Q := by
  intro p e R s m args below meth c Qf C H locs cells slots ls hW hL h1 h2 hl
  exact lv_ldc2 C.1.1 C.1.2.1 C.1.2.2.2.1 (C.2.1 _ hw) hd (kk p e R s m args below meth c Qf C H locs cells slots ls hW hL h1 h2 hl)
theorem zv_null (hd : decode cc pc = .ok (.aconst_null, 1)) (kk : zv G l y cc n r d mc ms (pc + 1) lv (.null :: st) h Q) : zv G l y cc n r d mc ms pc lv st h Q := by
  intro p e R s m args below meth c Qf C H locs cells slots ls hW hL h1 h2 hl
  exact lv_null C.1.1 C.1.2.1 hd (kk p e R s m args below meth c Qf C H locs cells slots ls hW hL h1 h2 hl)
theorem zv_iload_n {k : Fin 4} {x : Int32} (hd : decode cc pc = .ok (.iload_n k, 1)) (hk : zl lv k = some (.int x)) (kk : zv G l y cc n r d mc ms (pc + 1) lv (.int x :: st) h Q) : zv G l y cc n r d mc ms pc lv st h Q := by
  intro p e R s m args below meth c Qf C H locs cells slots ls hW hL h1 h2 hl
  exact lv_iload_n C.1.1 C.1.2.1 hd rfl (hl.2.2 _ (zl_mem hk)) (kk p e R s m args below meth c Qf C H locs cells slots ls hW hL h1 h2 hl)
theorem zv_iload {k : Nat} {x : Int32} (hd : decode cc pc = .ok (.iload k, 2)) (hk : zl lv k = some (.int x)) (kk : zv G l y cc n r d mc ms (pc + 2) lv (.int x :: st) h Q) : zv G l y cc n r d mc ms pc lv st h Q := by
  intro p e R s m args below meth c Qf C H locs cells slots ls hW hL h1 h2 hl
  exact lv_iload C.1.1 C.1.2.1 hd (hl.2.2 _ (zl_mem hk)) (kk p e R s m args below meth c Qf C H locs cells slots ls hW hL h1 h2 hl)
theorem zv_lload_n {k : Fin 4} {x : Int64} (hd : decode cc pc = .ok (.lload_n k, 1)) (hk : zl lv k = some (.long x)) (kk : zv G l y cc n r d mc ms (pc + 1) lv (.long x :: st) h Q) : zv G l y cc n r d mc ms pc lv st h Q := by
  intro p e R s m args below meth c Qf C H locs cells slots ls hW hL h1 h2 hl
  exact lv_lload_n C.1.1 C.1.2.1 hd rfl (hl.2.2 _ (zl_mem hk)) (kk p e R s m args below meth c Qf C H locs cells slots ls hW hL h1 h2 hl)
theorem zv_lload {k : Nat} {x : Int64} (hd : decode cc pc = .ok (.lload k, 2)) (hk : zl lv k = some (.long x)) (kk : zv G l y cc n r d mc ms (pc + 2) lv (.long x :: st) h Q) : zv G l y cc n r d mc ms pc lv st h Q := by
  intro p e R s m args below meth c Qf C H locs cells slots ls hW hL h1 h2 hl
  exact lv_lload C.1.1 C.1.2.1 hd (hl.2.2 _ (zl_mem hk)) (kk p e R s m args below meth c Qf C H locs cells slots ls hW hL h1 h2 hl)
theorem zv_aload_n {k : Fin 4} {x : Nat} (hd : decode cc pc = .ok (.aload_n k, 1)) (hk : zl lv k = some (.ref x)) (kk : zv G l y cc n r d mc ms (pc + 1) lv (.ref x :: st) h Q) : zv G l y cc n r d mc ms pc lv st h Q := by
  intro p e R s m args below meth c Qf C H locs cells slots ls hW hL h1 h2 hl
  exact lv_aload_n C.1.1 C.1.2.1 hd rfl (hl.2.2 _ (zl_mem hk)) (kk p e R s m args below meth c Qf C H locs cells slots ls hW hL h1 h2 hl)
theorem zv_aload {k : Nat} {x : Nat} (hd : decode cc pc = .ok (.aload k, 2)) (hk : zl lv k = some (.ref x)) (kk : zv G l y cc n r d mc ms (pc + 2) lv (.ref x :: st) h Q) : zv G l y cc n r d mc ms pc lv st h Q := by
  intro p e R s m args below meth c Qf C H locs cells slots ls hW hL h1 h2 hl
  exact lv_aload C.1.1 C.1.2.1 hd (hl.2.2 _ (zl_mem hk)) (kk p e R s m args below meth c Qf C H locs cells slots ls hW hL h1 h2 hl)
theorem zv_aload_nN {k : Fin 4} (hd : decode cc pc = .ok (.aload_n k, 1)) (hk : zl lv k = some .null) (kk : zv G l y cc n r d mc ms (pc + 1) lv (.null :: st) h Q) : zv G l y cc n r d mc ms pc lv st h Q := by
  intro p e R s m args below meth c Qf C H locs cells slots ls hW hL h1 h2 hl
  exact lv_aload_nN C.1.1 C.1.2.1 hd rfl (hl.2.2 _ (zl_mem hk)) (kk p e R s m args below meth c Qf C H locs cells slots ls hW hL h1 h2 hl)
theorem zv_aloadN {k : Nat} (hd : decode cc pc = .ok (.aload k, 2)) (hk : zl lv k = some .null) (kk : zv G l y cc n r d mc ms (pc + 2) lv (.null :: st) h Q) : zv G l y cc n r d mc ms pc lv st h Q := by
  intro p e R s m args below meth c Qf C H locs cells slots ls hW hL h1 h2 hl
  exact lv_aloadN C.1.1 C.1.2.1 hd (hl.2.2 _ (zl_mem hk)) (kk p e R s m args below meth c Qf C H locs cells slots ls hW hL h1 h2 hl)
theorem zv_istore_n {k : Fin 4} {x : Int32} (hd : decode cc pc = .ok (.istore_n k, 1)) (hn : (k : Nat) < n) (kk : zv G l y cc n r d mc ms (pc + 1) (zs1 lv k (.int x)) st h Q) : zv G l y cc n r d mc ms pc lv (.int x :: st) h Q := by
  intro p e R s m args below meth c Qf C H locs cells slots ls hW hL h1 h2 hl
  exact lv_istore_n C.1.1 C.1.2.1 hd rfl hl hn rfl (fun ls hl => kk p e R s m args below meth c Qf C H locs cells slots ls hW hL h1 h2 hl)
theorem zv_istore {k : Nat} {x : Int32} (hd : decode cc pc = .ok (.istore k, 2)) (hn : k < n) (kk : zv G l y cc n r d mc ms (pc + 2) (zs1 lv k (.int x)) st h Q) : zv G l y cc n r d mc ms pc lv (.int x :: st) h Q := by
  intro p e R s m args below meth c Qf C H locs cells slots ls hW hL h1 h2 hl
  exact lv_istore C.1.1 C.1.2.1 hd hl hn rfl (fun ls hl => kk p e R s m args below meth c Qf C H locs cells slots ls hW hL h1 h2 hl)
theorem zv_astore_n {k : Fin 4} {x : Nat} (hd : decode cc pc = .ok (.astore_n k, 1)) (hn : (k : Nat) < n) (kk : zv G l y cc n r d mc ms (pc + 1) (zs1 lv k (.ref x)) st h Q) : zv G l y cc n r d mc ms pc lv (.ref x :: st) h Q := by
  intro p e R s m args below meth c Qf C H locs cells slots ls hW hL h1 h2 hl
  exact lv_astore_n C.1.1 C.1.2.1 hd rfl hl hn rfl (fun ls hl => kk p e R s m args below meth c Qf C H locs cells slots ls hW hL h1 h2 hl)
theorem zv_astore {k : Nat} {x : Nat} (hd : decode cc pc = .ok (.astore k, 2)) (hn : k < n) (kk : zv G l y cc n r d mc ms (pc + 2) (zs1 lv k (.ref x)) st h Q) : zv G l y cc n r d mc ms pc lv (.ref x :: st) h Q := by
  intro p e R s m args below meth c Qf C H locs cells slots ls hW hL h1 h2 hl
  exact lv_astore C.1.1 C.1.2.1 hd hl hn rfl (fun ls hl => kk p e R s m args below meth c Qf C H locs cells slots ls hW hL h1 h2 hl)
theorem zv_lstore_n {k : Fin 4} {x : Int64} (hd : decode cc pc = .ok (.lstore_n k, 1)) (hn : (k : Nat) + 1 < n) (kk : zv G l y cc n r d mc ms (pc + 1) (zs2 lv k (.long x)) st h Q) : zv G l y cc n r d mc ms pc lv (.long x :: st) h Q := by
  intro p e R s m args below meth c Qf C H locs cells slots ls hW hL h1 h2 hl
  exact lv_lstore_n C.1.1 C.1.2.1 hd rfl hl hn rfl (fun ls hl => kk p e R s m args below meth c Qf C H locs cells slots ls hW hL h1 h2 hl)
theorem zv_lstore {k : Nat} {x : Int64} (hd : decode cc pc = .ok (.lstore k, 2)) (hn : k + 1 < n) (kk : zv G l y cc n r d mc ms (pc + 2) (zs2 lv k (.long x)) st h Q) : zv G l y cc n r d mc ms pc lv (.long x :: st) h Q := by
  intro p e R s m args below meth c Qf C H locs cells slots ls hW hL h1 h2 hl
  exact lv_lstore C.1.1 C.1.2.1 hd hl hn rfl (fun ls hl => kk p e R s m args below meth c Qf C H locs cells slots ls hW hL h1 h2 hl)
theorem zv_iinc {k : Nat} {z : Int} {x : Int32} (hd : decode cc pc = .ok (.iinc k z, 3)) (hk : zl lv k = some (.int x)) (hn : k < n) (kk : zv G l y cc n r d mc ms (pc + 3) (zs1 lv k (.int (x + Int32.ofInt z))) st h Q) : zv G l y cc n r d mc ms pc lv st h Q := by
  intro p e R s m args below meth c Qf C H locs cells slots ls hW hL h1 h2 hl
  obtain ⟨j, hj⟩ := List.getElem?_of_mem (zl_mem hk)
  exact lv_iinc C.1.1 C.1.2.1 hd hl hj rfl hn rfl (fun ls hl => kk p e R s m args below meth c Qf C H locs cells slots ls hW hL h1 h2 hl)
theorem zv_iadd {x y0 : Int32} (hd : decode cc pc = .ok (.iadd, 1)) (kk : zv G l y cc n r d mc ms (pc + 1) lv (.int (x + y0) :: st) h Q) : zv G l y cc n r d mc ms pc lv (.int y0 :: .int x :: st) h Q := by
  intro p e R s m args below meth c Qf C H locs cells slots ls hW hL h1 h2 hl
  exact lv_iadd C.1.1 C.1.2.1 hd (kk p e R s m args below meth c Qf C H locs cells slots ls hW hL h1 h2 hl)
theorem zv_isub {x y0 : Int32} (hd : decode cc pc = .ok (.isub, 1)) (kk : zv G l y cc n r d mc ms (pc + 1) lv (.int (x - y0) :: st) h Q) : zv G l y cc n r d mc ms pc lv (.int y0 :: .int x :: st) h Q := by
  intro p e R s m args below meth c Qf C H locs cells slots ls hW hL h1 h2 hl
  exact lv_isub C.1.1 C.1.2.1 hd (kk p e R s m args below meth c Qf C H locs cells slots ls hW hL h1 h2 hl)
theorem zv_imul {x y0 : Int32} (hd : decode cc pc = .ok (.imul, 1)) (kk : zv G l y cc n r d mc ms (pc + 1) lv (.int (x * y0) :: st) h Q) : zv G l y cc n r d mc ms pc lv (.int y0 :: .int x :: st) h Q := by
  intro p e R s m args below meth c Qf C H locs cells slots ls hW hL h1 h2 hl
  exact lv_imul C.1.1 C.1.2.1 hd (kk p e R s m args below meth c Qf C H locs cells slots ls hW hL h1 h2 hl)
theorem zv_iand {x y0 : Int32} (hd : decode cc pc = .ok (.iand, 1)) (kk : zv G l y cc n r d mc ms (pc + 1) lv (.int (x &&& y0) :: st) h Q) : zv G l y cc n r d mc ms pc lv (.int y0 :: .int x :: st) h Q := by
  intro p e R s m args below meth c Qf C H locs cells slots ls hW hL h1 h2 hl
  exact lv_iand C.1.1 C.1.2.1 hd (kk p e R s m args below meth c Qf C H locs cells slots ls hW hL h1 h2 hl)
theorem zv_ior {x y0 : Int32} (hd : decode cc pc = .ok (.ior, 1)) (kk : zv G l y cc n r d mc ms (pc + 1) lv (.int (x ||| y0) :: st) h Q) : zv G l y cc n r d mc ms pc lv (.int y0 :: .int x :: st) h Q := by
  intro p e R s m args below meth c Qf C H locs cells slots ls hW hL h1 h2 hl
  exact lv_ior C.1.1 C.1.2.1 hd (kk p e R s m args below meth c Qf C H locs cells slots ls hW hL h1 h2 hl)
theorem zv_ishl {x y0 : Int32} (hd : decode cc pc = .ok (.ishl, 1)) (kk : zv G l y cc n r d mc ms (pc + 1) lv (.int (x <<< (y0 &&& 31)) :: st) h Q) : zv G l y cc n r d mc ms pc lv (.int y0 :: .int x :: st) h Q := by
  intro p e R s m args below meth c Qf C H locs cells slots ls hW hL h1 h2 hl
  exact lv_ishl C.1.1 C.1.2.1 hd (kk p e R s m args below meth c Qf C H locs cells slots ls hW hL h1 h2 hl)
theorem zv_ishr {x y0 : Int32} (hd : decode cc pc = .ok (.ishr, 1)) (kk : zv G l y cc n r d mc ms (pc + 1) lv (.int (x >>> (y0 &&& 31)) :: st) h Q) : zv G l y cc n r d mc ms pc lv (.int y0 :: .int x :: st) h Q := by
  intro p e R s m args below meth c Qf C H locs cells slots ls hW hL h1 h2 hl
  exact lv_ishr C.1.1 C.1.2.1 hd (kk p e R s m args below meth c Qf C H locs cells slots ls hW hL h1 h2 hl)
theorem zv_ladd {x y0 : Int64} (hd : decode cc pc = .ok (.ladd, 1)) (kk : zv G l y cc n r d mc ms (pc + 1) lv (.long (x + y0) :: st) h Q) : zv G l y cc n r d mc ms pc lv (.long y0 :: .long x :: st) h Q := by
  intro p e R s m args below meth c Qf C H locs cells slots ls hW hL h1 h2 hl
  exact lv_ladd C.1.1 C.1.2.1 hd (kk p e R s m args below meth c Qf C H locs cells slots ls hW hL h1 h2 hl)
theorem zv_lsub {x y0 : Int64} (hd : decode cc pc = .ok (.lsub, 1)) (kk : zv G l y cc n r d mc ms (pc + 1) lv (.long (x - y0) :: st) h Q) : zv G l y cc n r d mc ms pc lv (.long y0 :: .long x :: st) h Q := by
  intro p e R s m args below meth c Qf C H locs cells slots ls hW hL h1 h2 hl
  exact lv_lsub C.1.1 C.1.2.1 hd (kk p e R s m args below meth c Qf C H locs cells slots ls hW hL h1 h2 hl)
theorem zv_land {x y0 : Int64} (hd : decode cc pc = .ok (.land, 1)) (kk : zv G l y cc n r d mc ms (pc + 1) lv (.long (x &&& y0) :: st) h Q) : zv G l y cc n r d mc ms pc lv (.long y0 :: .long x :: st) h Q := by
  intro p e R s m args below meth c Qf C H locs cells slots ls hW hL h1 h2 hl
  exact lv_land C.1.1 C.1.2.1 hd (kk p e R s m args below meth c Qf C H locs cells slots ls hW hL h1 h2 hl)
theorem zv_lor {x y0 : Int64} (hd : decode cc pc = .ok (.lor, 1)) (kk : zv G l y cc n r d mc ms (pc + 1) lv (.long (x ||| y0) :: st) h Q) : zv G l y cc n r d mc ms pc lv (.long y0 :: .long x :: st) h Q := by
  intro p e R s m args below meth c Qf C H locs cells slots ls hW hL h1 h2 hl
  exact lv_lor C.1.1 C.1.2.1 hd (kk p e R s m args below meth c Qf C H locs cells slots ls hW hL h1 h2 hl)
theorem zv_lshl {x : Int64} {y0 : Int32} (hd : decode cc pc = .ok (.lshl, 1)) (kk : zv G l y cc n r d mc ms (pc + 1) lv (.long (x <<< (y0.toInt64 &&& 63)) :: st) h Q) : zv G l y cc n r d mc ms pc lv (.int y0 :: .long x :: st) h Q := by
  intro p e R s m args below meth c Qf C H locs cells slots ls hW hL h1 h2 hl
  exact lv_lshl C.1.1 C.1.2.1 hd rfl (kk p e R s m args below meth c Qf C H locs cells slots ls hW hL h1 h2 hl)
theorem zv_lcmp {x y0 : Int64} (hd : decode cc pc = .ok (.lcmp, 1)) (kk : zv G l y cc n r d mc ms (pc + 1) lv (.int (lg_cmp x y0) :: st) h Q) : zv G l y cc n r d mc ms pc lv (.long y0 :: .long x :: st) h Q := by
  intro p e R s m args below meth c Qf C H locs cells slots ls hW hL h1 h2 hl
  exact W.lcmp C.1.1 C.1.2.1 hd (kk p e R s m args below meth c Qf C H locs cells slots ls hW hL h1 h2 hl)
theorem zv_i2l {x : Int32} (hd : decode cc pc = .ok (.i2l, 1)) (kk : zv G l y cc n r d mc ms (pc + 1) lv (.long (x.toInt64) :: st) h Q) : zv G l y cc n r d mc ms pc lv (.int x :: st) h Q := by
  intro p e R s m args below meth c Qf C H locs cells slots ls hW hL h1 h2 hl
  exact lv_i2l C.1.1 C.1.2.1 hd rfl (kk p e R s m args below meth c Qf C H locs cells slots ls hW hL h1 h2 hl)
theorem zv_l2i {x : Int64} (hd : decode cc pc = .ok (.l2i, 1)) (kk : zv G l y cc n r d mc ms (pc + 1) lv (.int (x.toInt32) :: st) h Q) : zv G l y cc n r d mc ms pc lv (.long x :: st) h Q := by
  intro p e R s m args below meth c Qf C H locs cells slots ls hW hL h1 h2 hl
  exact lv_l2i C.1.1 C.1.2.1 hd rfl (kk p e R s m args below meth c Qf C H locs cells slots ls hW hL h1 h2 hl)
theorem zv_i2b {x : Int32} (hd : decode cc pc = .ok (.i2b, 1)) (kk : zv G l y cc n r d mc ms (pc + 1) lv (.int (x.toInt8.toInt32) :: st) h Q) : zv G l y cc n r d mc ms pc lv (.int x :: st) h Q := by
  intro p e R s m args below meth c Qf C H locs cells slots ls hW hL h1 h2 hl
  exact lv_i2b C.1.1 C.1.2.1 hd rfl (kk p e R s m args below meth c Qf C H locs cells slots ls hW hL h1 h2 hl)
theorem zv_i2s {x : Int32} (hd : decode cc pc = .ok (.i2s, 1)) (kk : zv G l y cc n r d mc ms (pc + 1) lv (.int (x.toInt16.toInt32) :: st) h Q) : zv G l y cc n r d mc ms pc lv (.int x :: st) h Q := by
  intro p e R s m args below meth c Qf C H locs cells slots ls hW hL h1 h2 hl
  exact lv_i2s C.1.1 C.1.2.1 hd rfl (kk p e R s m args below meth c Qf C H locs cells slots ls hW hL h1 h2 hl)
theorem zv_i2c {x : Int32} (hd : decode cc pc = .ok (.i2c, 1)) (kk : zv G l y cc n r d mc ms (pc + 1) lv (.int ((x.toUInt32 % 65536).toInt32) :: st) h Q) : zv G l y cc n r d mc ms pc lv (.int x :: st) h Q := by
  intro p e R s m args below meth c Qf C H locs cells slots ls hW hL h1 h2 hl
  exact lv_i2c C.1.1 C.1.2.1 hd rfl (kk p e R s m args below meth c Qf C H locs cells slots ls hW hL h1 h2 hl)
theorem zv_dup {v : Value} (hd : decode cc pc = .ok (.dup, 1)) (hv : v.category = 1) (kk : zv G l y cc n r d mc ms (pc + 1) lv (v :: v :: st) h Q) : zv G l y cc n r d mc ms pc lv (v :: st) h Q := by
  intro p e R s m args below meth c Qf C H locs cells slots ls hW hL h1 h2 hl
  exact lv_dup C.1.1 C.1.2.1 hd hv (kk p e R s m args below meth c Qf C H locs cells slots ls hW hL h1 h2 hl)
theorem zv_goto {off : Int} {tgt : Nat} (hd : decode cc pc = .ok (.goto off, 3)) (ht : (pc : Int) + off = (tgt : Int)) (kk : zv G l y cc n r d mc ms tgt lv st h Q) : zv G l y cc n r d mc ms pc lv st h Q := by
  intro p e R s m args below meth c Qf C H locs cells slots ls hW hL h1 h2 hl
  exact lv_goto C.1.1 C.1.2.1 hd ht (kk p e R s m args below meth c Qf C H locs cells slots ls hW hL h1 h2 hl)
theorem zv_ifnonnull {off : Int} {tgt x : Nat} (hd : decode cc pc = .ok (.ifnonnull off, 3)) (ht : (pc : Int) + off = (tgt : Int)) (kk : zv G l y cc n r d mc ms tgt lv st h Q) : zv G l y cc n r d mc ms pc lv (.ref x :: st) h Q := by
  intro p e R s m args below meth c Qf C H locs cells slots ls hW hL h1 h2 hl
  exact lv_ifnonnull C.1.1 C.1.2.1 hd ht (kk p e R s m args below meth c Qf C H locs cells slots ls hW hL h1 h2 hl)
theorem zv_ifnonnullN {off : Int} (hd : decode cc pc = .ok (.ifnonnull off, 3)) (kk : zv G l y cc n r d mc ms (pc + 3) lv st h Q) : zv G l y cc n r d mc ms pc lv (.null :: st) h Q := by
  intro p e R s m args below meth c Qf C H locs cells slots ls hW hL h1 h2 hl
  exact lv_ifnonnullN C.1.1 C.1.2.1 hd (kk p e R s m args below meth c Qf C H locs cells slots ls hW hL h1 h2 hl)
theorem zv_tableIn {dflt lo hi off : Int} {offs : Array Int} {len tgt : Nat} {x : Int32} (hd : decode cc pc = .ok (.tableswitch dflt lo hi offs, len)) (h1 : ¬ x.toInt < lo) (h2 : ¬ hi < x.toInt) (ho : offs[(x.toInt - lo).toNat]? = some off) (ht : (pc : Int) + off = (tgt : Int)) (kk : zv G l y cc n r d mc ms tgt lv st h Q) : zv G l y cc n r d mc ms pc lv (.int x :: st) h Q := by
  intro p e R s m args below meth c Qf C H locs cells slots ls hW hL h1 h2 hl
  exact lv_tableIn C.1.1 C.1.2.1 hd (by assumption) (by assumption) ho ht (kk p e R s m args below meth c Qf C H locs cells slots ls hW hL h1 h2 hl)
theorem zv_tableOut {dflt lo hi : Int} {offs : Array Int} {len tgt : Nat} {x : Int32} (hd : decode cc pc = .ok (.tableswitch dflt lo hi offs, len)) (h0 : x.toInt < lo ∨ hi < x.toInt) (ht : (pc : Int) + dflt = (tgt : Int)) (kk : zv G l y cc n r d mc ms tgt lv st h Q) : zv G l y cc n r d mc ms pc lv (.int x :: st) h Q := by
  intro p e R s m args below meth c Qf C H locs cells slots ls hW hL h1 h2 hl
  exact lv_tableOut C.1.1 C.1.2.1 hd h0 ht (kk p e R s m args below meth c Qf C H locs cells slots ls hW hL h1 h2 hl)
theorem zv_if_eq {off : Int} {tgt : Nat} {x : Int32} (hd : decode cc pc = .ok (.ifCond .eq off, 3)) (ht : (pc : Int) + off = (tgt : Int)) (kt : x = 0 → zv G l y cc n r d mc ms tgt lv st h Q) (kf : ¬ (x = 0) → zv G l y cc n r d mc ms (pc + 3) lv st h Q) : zv G l y cc n r d mc ms pc lv (.int x :: st) h Q := by
  intro p e R s m args below meth c Qf C H locs cells slots ls hW hL h1 h2 hl
  by_cases hc : x = 0
  · exact lv_if_eq C.1.1 C.1.2.1 hd ht (fun _ => kt hc p e R s m args below meth c Qf C H locs cells slots ls hW hL h1 h2 hl) (fun h => by exfalso; first | exact h hc | exact hc h | (apply h; simpa using hc) | (simp at h hc; first | exact h hc | exact hc h | (exact absurd hc (by simpa using h))))
  · exact lv_if_eq C.1.1 C.1.2.1 hd ht (fun h => by exfalso; first | exact hc h | exact h hc | (apply hc; simpa using h) | (simp at h hc; first | exact h hc | exact hc h | (exact absurd hc (by simpa using h)))) (fun _ => kf hc p e R s m args below meth c Qf C H locs cells slots ls hW hL h1 h2 hl)
theorem zv_icmp_eq {off : Int} {tgt : Nat} {x y0 : Int32} (hd : decode cc pc = .ok (.if_icmp .eq off, 3)) (ht : (pc : Int) + off = (tgt : Int)) (kt : x = y0 → zv G l y cc n r d mc ms tgt lv st h Q) (kf : ¬ (x = y0) → zv G l y cc n r d mc ms (pc + 3) lv st h Q) : zv G l y cc n r d mc ms pc lv (.int y0 :: .int x :: st) h Q := by
  intro p e R s m args below meth c Qf C H locs cells slots ls hW hL h1 h2 hl
  by_cases hc : x = y0
  · exact lv_icmp_eq C.1.1 C.1.2.1 hd ht (fun _ => kt hc p e R s m args below meth c Qf C H locs cells slots ls hW hL h1 h2 hl) (fun h => by exfalso; first | exact h hc | exact hc h | (apply h; simpa using hc) | (simp at h hc; first | exact h hc | exact hc h | (exact absurd hc (by simpa using h))))
  · exact lv_icmp_eq C.1.1 C.1.2.1 hd ht (fun h => by exfalso; first | exact hc h | exact h hc | (apply hc; simpa using h) | (simp at h hc; first | exact h hc | exact hc h | (exact absurd hc (by simpa using h)))) (fun _ => kf hc p e R s m args below meth c Qf C H locs cells slots ls hW hL h1 h2 hl)
theorem zv_if_ne {off : Int} {tgt : Nat} {x : Int32} (hd : decode cc pc = .ok (.ifCond .ne off, 3)) (ht : (pc : Int) + off = (tgt : Int)) (kt : ¬ x = 0 → zv G l y cc n r d mc ms tgt lv st h Q) (kf : ¬ (¬ x = 0) → zv G l y cc n r d mc ms (pc + 3) lv st h Q) : zv G l y cc n r d mc ms pc lv (.int x :: st) h Q := by
  intro p e R s m args below meth c Qf C H locs cells slots ls hW hL h1 h2 hl
  by_cases hc : ¬ x = 0
  · exact lv_if_ne C.1.1 C.1.2.1 hd ht (fun _ => kt hc p e R s m args below meth c Qf C H locs cells slots ls hW hL h1 h2 hl) (fun h => by exfalso; first | exact h hc | exact hc h | (apply h; simpa using hc) | (simp at h hc; first | exact h hc | exact hc h | (exact absurd hc (by simpa using h))))
  · exact lv_if_ne C.1.1 C.1.2.1 hd ht (fun h => by exfalso; first | exact hc h | exact h hc | (apply hc; simpa using h) | (simp at h hc; first | exact h hc | exact hc h | (exact absurd hc (by simpa using h)))) (fun _ => kf hc p e R s m args below meth c Qf C H locs cells slots ls hW hL h1 h2 hl)
theorem zv_icmp_ne {off : Int} {tgt : Nat} {x y0 : Int32} (hd : decode cc pc = .ok (.if_icmp .ne off, 3)) (ht : (pc : Int) + off = (tgt : Int)) (kt : ¬ x = y0 → zv G l y cc n r d mc ms tgt lv st h Q) (kf : ¬ (¬ x = y0) → zv G l y cc n r d mc ms (pc + 3) lv st h Q) : zv G l y cc n r d mc ms pc lv (.int y0 :: .int x :: st) h Q := by
  intro p e R s m args below meth c Qf C H locs cells slots ls hW hL h1 h2 hl
  by_cases hc : ¬ x = y0
  · exact lv_icmp_ne C.1.1 C.1.2.1 hd ht (fun _ => kt hc p e R s m args below meth c Qf C H locs cells slots ls hW hL h1 h2 hl) (fun h => by exfalso; first | exact h hc | exact hc h | (apply h; simpa using hc) | (simp at h hc; first | exact h hc | exact hc h | (exact absurd hc (by simpa using h))))
  · exact lv_icmp_ne C.1.1 C.1.2.1 hd ht (fun h => by exfalso; first | exact hc h | exact h hc | (apply hc; simpa using h) | (simp at h hc; first | exact h hc | exact hc h | (exact absurd hc (by simpa using h)))) (fun _ => kf hc p e R s m args below meth c Qf C H locs cells slots ls hW hL h1 h2 hl)
theorem zv_if_lt {off : Int} {tgt : Nat} {x : Int32} (hd : decode cc pc = .ok (.ifCond .lt off, 3)) (ht : (pc : Int) + off = (tgt : Int)) (kt : x < 0 → zv G l y cc n r d mc ms tgt lv st h Q) (kf : ¬ (x < 0) → zv G l y cc n r d mc ms (pc + 3) lv st h Q) : zv G l y cc n r d mc ms pc lv (.int x :: st) h Q := by
  intro p e R s m args below meth c Qf C H locs cells slots ls hW hL h1 h2 hl
  by_cases hc : x < 0
  · exact lv_if_lt C.1.1 C.1.2.1 hd ht (fun _ => kt hc p e R s m args below meth c Qf C H locs cells slots ls hW hL h1 h2 hl) (fun h => by exfalso; first | exact h hc | exact hc h | (apply h; simpa using hc) | (simp at h hc; first | exact h hc | exact hc h | (exact absurd hc (by simpa using h))))
  · exact lv_if_lt C.1.1 C.1.2.1 hd ht (fun h => by exfalso; first | exact hc h | exact h hc | (apply hc; simpa using h) | (simp at h hc; first | exact h hc | exact hc h | (exact absurd hc (by simpa using h)))) (fun _ => kf hc p e R s m args below meth c Qf C H locs cells slots ls hW hL h1 h2 hl)
theorem zv_icmp_lt {off : Int} {tgt : Nat} {x y0 : Int32} (hd : decode cc pc = .ok (.if_icmp .lt off, 3)) (ht : (pc : Int) + off = (tgt : Int)) (kt : x < y0 → zv G l y cc n r d mc ms tgt lv st h Q) (kf : ¬ (x < y0) → zv G l y cc n r d mc ms (pc + 3) lv st h Q) : zv G l y cc n r d mc ms pc lv (.int y0 :: .int x :: st) h Q := by
  intro p e R s m args below meth c Qf C H locs cells slots ls hW hL h1 h2 hl
  by_cases hc : x < y0
  · exact lv_icmp_lt C.1.1 C.1.2.1 hd ht (fun _ => kt hc p e R s m args below meth c Qf C H locs cells slots ls hW hL h1 h2 hl) (fun h => by exfalso; first | exact h hc | exact hc h | (apply h; simpa using hc) | (simp at h hc; first | exact h hc | exact hc h | (exact absurd hc (by simpa using h))))
  · exact lv_icmp_lt C.1.1 C.1.2.1 hd ht (fun h => by exfalso; first | exact hc h | exact h hc | (apply hc; simpa using h) | (simp at h hc; first | exact h hc | exact hc h | (exact absurd hc (by simpa using h)))) (fun _ => kf hc p e R s m args below meth c Qf C H locs cells slots ls hW hL h1 h2 hl)
theorem zv_if_ge {off : Int} {tgt : Nat} {x : Int32} (hd : decode cc pc = .ok (.ifCond .ge off, 3)) (ht : (pc : Int) + off = (tgt : Int)) (kt : 0 ≤ x → zv G l y cc n r d mc ms tgt lv st h Q) (kf : ¬ (0 ≤ x) → zv G l y cc n r d mc ms (pc + 3) lv st h Q) : zv G l y cc n r d mc ms pc lv (.int x :: st) h Q := by
  intro p e R s m args below meth c Qf C H locs cells slots ls hW hL h1 h2 hl
  by_cases hc : 0 ≤ x
  · exact lv_if_ge C.1.1 C.1.2.1 hd ht (fun _ => kt hc p e R s m args below meth c Qf C H locs cells slots ls hW hL h1 h2 hl) (fun h => by exfalso; first | exact h hc | exact hc h | (apply h; simpa using hc) | (simp at h hc; first | exact h hc | exact hc h | (exact absurd hc (by simpa using h))))
  · exact lv_if_ge C.1.1 C.1.2.1 hd ht (fun h => by exfalso; first | exact hc h | exact h hc | (apply hc; simpa using h) | (simp at h hc; first | exact h hc | exact hc h | (exact absurd hc (by simpa using h)))) (fun _ => kf hc p e R s m args below meth c Qf C H locs cells slots ls hW hL h1 h2 hl)
theorem zv_icmp_ge {off : Int} {tgt : Nat} {x y0 : Int32} (hd : decode cc pc = .ok (.if_icmp .ge off, 3)) (ht : (pc : Int) + off = (tgt : Int)) (kt : y0 ≤ x → zv G l y cc n r d mc ms tgt lv st h Q) (kf : ¬ (y0 ≤ x) → zv G l y cc n r d mc ms (pc + 3) lv st h Q) : zv G l y cc n r d mc ms pc lv (.int y0 :: .int x :: st) h Q := by
  intro p e R s m args below meth c Qf C H locs cells slots ls hW hL h1 h2 hl
  by_cases hc : y0 ≤ x
  · exact lv_icmp_ge C.1.1 C.1.2.1 hd ht (fun _ => kt hc p e R s m args below meth c Qf C H locs cells slots ls hW hL h1 h2 hl) (fun h => by exfalso; first | exact h hc | exact hc h | (apply h; simpa using hc) | (simp at h hc; first | exact h hc | exact hc h | (exact absurd hc (by simpa using h))))
  · exact lv_icmp_ge C.1.1 C.1.2.1 hd ht (fun h => by exfalso; first | exact hc h | exact h hc | (apply hc; simpa using h) | (simp at h hc; first | exact h hc | exact hc h | (exact absurd hc (by simpa using h)))) (fun _ => kf hc p e R s m args below meth c Qf C H locs cells slots ls hW hL h1 h2 hl)
theorem zv_if_gt {off : Int} {tgt : Nat} {x : Int32} (hd : decode cc pc = .ok (.ifCond .gt off, 3)) (ht : (pc : Int) + off = (tgt : Int)) (kt : 0 < x → zv G l y cc n r d mc ms tgt lv st h Q) (kf : ¬ (0 < x) → zv G l y cc n r d mc ms (pc + 3) lv st h Q) : zv G l y cc n r d mc ms pc lv (.int x :: st) h Q := by
  intro p e R s m args below meth c Qf C H locs cells slots ls hW hL h1 h2 hl
  by_cases hc : 0 < x
  · exact lv_if_gt C.1.1 C.1.2.1 hd ht (fun _ => kt hc p e R s m args below meth c Qf C H locs cells slots ls hW hL h1 h2 hl) (fun h => by exfalso; first | exact h hc | exact hc h | (apply h; simpa using hc) | (simp at h hc; first | exact h hc | exact hc h | (exact absurd hc (by simpa using h))))
  · exact lv_if_gt C.1.1 C.1.2.1 hd ht (fun h => by exfalso; first | exact hc h | exact h hc | (apply hc; simpa using h) | (simp at h hc; first | exact h hc | exact hc h | (exact absurd hc (by simpa using h)))) (fun _ => kf hc p e R s m args below meth c Qf C H locs cells slots ls hW hL h1 h2 hl)
theorem zv_icmp_gt {off : Int} {tgt : Nat} {x y0 : Int32} (hd : decode cc pc = .ok (.if_icmp .gt off, 3)) (ht : (pc : Int) + off = (tgt : Int)) (kt : y0 < x → zv G l y cc n r d mc ms tgt lv st h Q) (kf : ¬ (y0 < x) → zv G l y cc n r d mc ms (pc + 3) lv st h Q) : zv G l y cc n r d mc ms pc lv (.int y0 :: .int x :: st) h Q := by
  intro p e R s m args below meth c Qf C H locs cells slots ls hW hL h1 h2 hl
  by_cases hc : y0 < x
  · exact lv_icmp_gt C.1.1 C.1.2.1 hd ht (fun _ => kt hc p e R s m args below meth c Qf C H locs cells slots ls hW hL h1 h2 hl) (fun h => by exfalso; first | exact h hc | exact hc h | (apply h; simpa using hc) | (simp at h hc; first | exact h hc | exact hc h | (exact absurd hc (by simpa using h))))
  · exact lv_icmp_gt C.1.1 C.1.2.1 hd ht (fun h => by exfalso; first | exact hc h | exact h hc | (apply hc; simpa using h) | (simp at h hc; first | exact h hc | exact hc h | (exact absurd hc (by simpa using h)))) (fun _ => kf hc p e R s m args below meth c Qf C H locs cells slots ls hW hL h1 h2 hl)
theorem zv_if_le {off : Int} {tgt : Nat} {x : Int32} (hd : decode cc pc = .ok (.ifCond .le off, 3)) (ht : (pc : Int) + off = (tgt : Int)) (kt : x ≤ 0 → zv G l y cc n r d mc ms tgt lv st h Q) (kf : ¬ (x ≤ 0) → zv G l y cc n r d mc ms (pc + 3) lv st h Q) : zv G l y cc n r d mc ms pc lv (.int x :: st) h Q := by
  intro p e R s m args below meth c Qf C H locs cells slots ls hW hL h1 h2 hl
  by_cases hc : x ≤ 0
  · exact lv_if_le C.1.1 C.1.2.1 hd ht (fun _ => kt hc p e R s m args below meth c Qf C H locs cells slots ls hW hL h1 h2 hl) (fun h => by exfalso; first | exact h hc | exact hc h | (apply h; simpa using hc) | (simp at h hc; first | exact h hc | exact hc h | (exact absurd hc (by simpa using h))))
  · exact lv_if_le C.1.1 C.1.2.1 hd ht (fun h => by exfalso; first | exact hc h | exact h hc | (apply hc; simpa using h) | (simp at h hc; first | exact h hc | exact hc h | (exact absurd hc (by simpa using h)))) (fun _ => kf hc p e R s m args below meth c Qf C H locs cells slots ls hW hL h1 h2 hl)
theorem zv_icmp_le {off : Int} {tgt : Nat} {x y0 : Int32} (hd : decode cc pc = .ok (.if_icmp .le off, 3)) (ht : (pc : Int) + off = (tgt : Int)) (kt : x ≤ y0 → zv G l y cc n r d mc ms tgt lv st h Q) (kf : ¬ (x ≤ y0) → zv G l y cc n r d mc ms (pc + 3) lv st h Q) : zv G l y cc n r d mc ms pc lv (.int y0 :: .int x :: st) h Q := by
  intro p e R s m args below meth c Qf C H locs cells slots ls hW hL h1 h2 hl
  by_cases hc : x ≤ y0
  · exact lv_icmp_le C.1.1 C.1.2.1 hd ht (fun _ => kt hc p e R s m args below meth c Qf C H locs cells slots ls hW hL h1 h2 hl) (fun h => by exfalso; first | exact h hc | exact hc h | (apply h; simpa using hc) | (simp at h hc; first | exact h hc | exact hc h | (exact absurd hc (by simpa using h))))
  · exact lv_icmp_le C.1.1 C.1.2.1 hd ht (fun h => by exfalso; first | exact hc h | exact h hc | (apply hc; simpa using h) | (simp at h hc; first | exact h hc | exact hc h | (exact absurd hc (by simpa using h)))) (fun _ => kf hc p e R s m args below meth c Qf C H locs cells slots ls hW hL h1 h2 hl)
theorem zv_acmp_ne {off : Int} {tgt : Nat} {rx ry : Option Nat} (hd : decode cc pc = .ok (.if_acmp .ne off, 3)) (ht : (pc : Int) + off = (tgt : Int)) (kt : ¬ rx = ry → zv G l y cc n r d mc ms tgt lv st h Q) (kf : rx = ry → zv G l y cc n r d mc ms (pc + 3) lv st h Q) : zv G l y cc n r d mc ms pc lv (va_rf ry :: va_rf rx :: st) h Q := by
  intro p e R s m args below meth c Qf C H locs cells slots ls hW hL h1 h2 hl
  exact lv_acmp_ne C.1.1 C.1.2.1 hd ht (fun hc => kt hc p e R s m args below meth c Qf C H locs cells slots ls hW hL h1 h2 hl) (fun hc => kf hc p e R s m args below meth c Qf C H locs cells slots ls hW hL h1 h2 hl)
end ZV
end
section
/-- the field that 'own' names idx is field k of class ci -/
def zf (own : String) (idx ci k : Nat) : Prop := ∃ (Cn : String) (T : u_T) (N : Nat) (ref : String), vwCl[ci]? = some (Cn, T, N) ∧ k < N ∧ (∀ w ∈ u_ws Cn T N, w ∈ zw) ∧ (Cond.fieldLink own idx ref (T k).2.1 (T k).2.2.1 ∈ zw ∨ (own, idx, ref, (T k).2.1, (T k).2.2.1) ∈ zh_nF) ∧ (ref = (T k).1 ∨ Cond.sameField ref (T k).1 (T k).2.1 (T k).2.2.1 ∈ zw)
/-- and it may be written with values of type ty -/
def zfw (own : String) (idx ci k : Nat) (ty : FieldType) (fin : Bool) : Prop := ∃ (Cn : String) (T : u_T) (N : Nat) (ref : String) (ty0 : Nat → FieldType), vwCl[ci]? = some (Cn, T, N) ∧ k < N ∧ (∀ w ∈ u_ws Cn T N, w ∈ zw) ∧ (Cond.fieldLink own idx ref (T k).2.1 (T k).2.2.1 ∈ zw ∨ (fin = false ∧ (own, idx, ref, (T k).2.1, (T k).2.2.1) ∈ zh_nF)) ∧ (ref = (T k).1 ∨ Cond.sameField ref (T k).1 (T k).2.1 (T k).2.2.1 ∈ zw) ∧ (∀ k, k < N → parseFieldDescriptor (T k).2.2.1 = some (ty0 k)) ∧ (∀ a, a < N → ∀ b, b < N → a ≠ b → (T a).2.1 ≠ (T b).2.1) ∧ ty0 k = ty ∧ (T k).2.2.2 = fin ∧ (fin = true → (T k).1 = own)
section ZH
variable {G : zh_G} {l : Launch} {y : MethodName} {cc : ByteArray} {n : Nat} {r : Option FieldType} {d mc ms pc : Nat} {lv : List (Nat × Value)} {st : List Value} {h : zh_H} {Q : Option Value → zh_H → Prop}
variable {p : Program} {e : Env} {R : Room} {s : State} {m : MethodId} {args : Array Value} {below : List Frame} {meth : Method} {c : Code} {H : Heap} {locs : List Loc} {cells slots : Nat} {Qf : State → Prop} {ls : Array Slot} {rest : List Value} {a : Nat}
theorem zh_same {ref : String} {T : u_T} {k : Nat} (hts : ∀ w ∈ zw, w.before args s = true) (hs : ref = (T k).1 ∨ Cond.sameField ref (T k).1 (T k).2.1 (T k).2.2.1 ∈ zw) : ∀ x, s.fieldFound? (T k).1 (T k).2.1 (T k).2.2.1 = some x → s.fieldFound? ref (T k).2.1 (T k).2.2.1 = some x := by
  intro x hx
  rcases hs with rfl | hs
  · exact hx
  · exact u_same (hts _ hs) x hx
theorem zv_get {idx ci k : Nat} {fs : List Value} {v : Value} (hf : zf y.cls idx ci k) (he : h.1 a = .inr (ci, fs)) (hB : zg_B G ≤ a) (hB2 : a < h.2) (hv : fs[k]? = some v) (hd : decode cc pc = .ok (.getfield idx, 3)) (kk : zv G l y cc n r d mc ms (pc + 3) lv (v :: st) h Q) : zv G l y cc n r d mc ms pc lv (.ref a :: st) h Q := by
  intro p e R s m args below meth c Qf C H locs cells slots ls hW hL h1 h2 hl
  obtain ⟨Cn, T, N, ref, hc, hk, hin, hlink, hsame⟩ := hf
  have hP : va_P G.1 vwCl [(a, .inr (ci, fs))] H := by
    intro j q hj
    have hat := hW.2.2.2 a hB hB2
    rw [he] at hat
    match j, hj with
    | 0, hj => cases hj; exact hat
    | j + 1, hj => simp at hj
  rcases hlink with hlink | hlink
  · exact va_get C.1.1 C.1.2.1 C.2.1 hin C.1.2.2.2.1 C.2.2.1.1 hP 0 rfl hc k hk (C.2.1 _ hlink) (zh_same C.2.1 hsame) hv hd (kk p e R s m args below meth c Qf C H locs cells slots ls hW hL h1 h2 hl)
  · exact va_getN C.1.1 C.1.2.1 C.2.1 hin C.1.2.2.2.1 C.2.2.1.1 hP 0 rfl hc k hk (va_Nw.use rfl (C.2.2.1.2.1 _ hlink)) (zh_same C.2.1 hsame) hv hd (kk p e R s m args below meth c Qf C H locs cells slots ls hW hL h1 h2 hl)
theorem zv_put {idx ci k : Nat} {fs : List Value} {v : Value} {ty : FieldType} (hf : zfw y.cls idx ci k ty false) (he : h.1 a = .inr (ci, fs)) (hB : zg_B G ≤ a) (hB2 : a < h.2) (hn : narrow ty v = v) (hfit : fits ty v = true) (hlen : k < fs.length) (hd : decode cc pc = .ok (.putfield idx, 3)) (kk : zv G l y cc n r d mc ms (pc + 3) lv st (va_up h.1 a (.inr (ci, fs.set k v)), h.2) Q) : zv G l y cc n r d mc ms pc lv (v :: .ref a :: st) h Q := by
  intro p e R s m args below meth c Qf C H locs cells slots ls hW hL h1 h2 hl
  obtain ⟨Cn, T, N, ref, ty0, hc, hk, hin, hlink, hsame, hty, hnm, hty2, hfin, -⟩ := hf
  subst hty2
  have hK := C.2.2.1.1
  have hts := C.2.1
  have hap := va_apart (own := y.cls) hts hin ty0 hty hnm hK hc
  have hat := hW.2.2.2 a hB hB2
  rw [he] at hat
  obtain ⟨r0, hr0, cell, q1, q2, q3, q4⟩ := hat
  have hr : r0 = (Cn, T, N) := Option.some.inj (hr0.symm.trans hc)
  subst hr
  obtain ⟨hS, hfc, kC, hkC, hkind⟩ := hK.1 ci _ hc
  obtain ⟨cf, kf, fi, f, hi, hsl⟩ := hS k hk
  have hlay := hts _ (hin _ (u_in_lay hk))
  unfold u_lay at hlay
  rw [if_neg (by rw [hfin]; decide)] at hlay
  have hst := (u_facts hfc hkC (u_lays hts hin hk) hi).1
  have h6 := u_store hfc hkC hkind hlay hi (hty k hk) hn hfit
  have fin : ∀ H' : Heap, H'[a]? = some (cell.setSlot f.slot v) → H'.size = H.size → (∀ q, q ≠ a → H'[q]? = H[q]?) → W p l e R s m args below meth c H' (locs ++ [⟨a, f.slot⟩]) cells slots Qf (F0 m (pc + 3) ls st) := by
    intro H' e1 e2 e3
    rw [hsl] at e1
    refine kk p e R s m args below meth c Qf C H' _ cells slots ls (hW.put hB ⟨_, hc, t_OB.to (V := updV (vp_V fs) k v) ⟨_, e1, q2, q3, t_set q4 hap hk v⟩ (fun j _ => vp_updV_set hlen v j)⟩ e2 e3) (fun q hq => ?_) h1 h2 hl
    rcases List.mem_append.mp hq with h | h
    · exact hL q h
    · rw [List.mem_singleton.mp h]; exact hB
  rcases hlink with hlink | hlink
  · exact W.putK C.1.1 C.1.2.1 (f := f) ⟨C.1.2.2.2.1, hts _ hlink, ⟨_, _, _, zh_same hts hsame _ hi⟩, hst⟩ (by rw [q2]; exact h6) q1 q3 (by rw [hsl]; exact k2_hasslot (q4 k hk)) rfl rfl hd fin
  · exact va_WputK C.1.1 C.1.2.1 (f := f) C.1.2.2.2.1 (va_Nw.use rfl (C.2.2.1.2.1 _ hlink.2)) (zh_same hts hsame _ hi) hst (by rw [q2]; exact h6) q1 q3 (by rw [hsl]; exact k2_hasslot (q4 k hk)) rfl rfl hd fin
theorem zv_putF {idx ci k : Nat} {fs : List Value} {v : Value} {ty : FieldType} (hf : zfw y.cls idx ci k ty true) (hin2 : y.name = "<init>") (he : h.1 a = .inr (ci, fs)) (hB : zg_B G ≤ a) (hB2 : a < h.2) (hn : narrow ty v = v) (hfit : fits ty v = true) (hlen : k < fs.length) (hd : decode cc pc = .ok (.putfield idx, 3)) (kk : zv G l y cc n r d mc ms (pc + 3) lv st (va_up h.1 a (.inr (ci, fs.set k v)), h.2) Q) : zv G l y cc n r d mc ms pc lv (v :: .ref a :: st) h Q := by
  intro p e R s m args below meth c Qf C H locs cells slots ls hW hL h1 h2 hl
  obtain ⟨Cn, T, N, ref, ty0, hc, hk, hin, hlink, hsame, hty, hnm, hty2, hfin, hdecl⟩ := hf
  subst hty2
  have hdecl := hdecl rfl
  have hK := C.2.2.1.1
  have hts := C.2.1
  have hap := va_apart (own := y.cls) hts hin ty0 hty hnm hK hc
  have hat := hW.2.2.2 a hB hB2
  rw [he] at hat
  obtain ⟨r0, hr0, cell, q1, q2, q3, q4⟩ := hat
  have hr : r0 = (Cn, T, N) := Option.some.inj (hr0.symm.trans hc)
  subst hr
  obtain ⟨hS, hfc, kC, hkC, hkind⟩ := hK.1 ci _ hc
  obtain ⟨cf, kf, fi, f, hi, hsl⟩ := hS k hk
  have hlay := hts _ (hin _ (u_in_lay hk))
  unfold u_lay at hlay
  rw [if_pos hfin] at hlay
  have hst := (u_facts hfc hkC (u_lays hts hin hk) hi).1
  have hcf : m.cls = cf := by
    obtain ⟨_, _, c', _, _, _, -, -, hf', -, -, -, hown2, -⟩ := Cond.laysFinal_spec hlay
    have e1 : c' = cf := by have := hi.symm.trans hf'; simp at this; exact this.1.symm
    rw [hdecl] at hown2
    rw [← e1]; exact Option.some.inj (C.1.2.2.2.1.symm.trans hown2)
  have h6 := u_fits hfc hkC hkind (Or.inr hlay) hi (hty k hk) hn hfit
  rcases hlink with hlink | hlink
  · refine W.putFinK C.1.1 C.1.2.1 C.1.2.2.2.1 (hts _ hlink) (zh_same hts hsame _ hi) hst hcf (C.1.2.2.2.2.trans hin2) (by rw [q2]; exact h6) q1 q3 (by rw [hsl]; exact k2_hasslot (q4 k hk)) rfl rfl hd fun H' e1 e2 e3 => ?_
    rw [hsl] at e1
    refine kk p e R s m args below meth c Qf C H' _ cells slots ls (hW.put hB ⟨_, hc, t_OB.to (V := updV (vp_V fs) k v) ⟨_, e1, q2, q3, t_set q4 hap hk v⟩ (fun j _ => vp_updV_set hlen v j)⟩ e2 e3) (fun q hq => ?_) h1 h2 hl
    rcases List.mem_append.mp hq with h | h
    · exact hL q h
    · rw [List.mem_singleton.mp h]; exact hB
  · exact absurd hlink.1 (by decide)
theorem zv_iald {N : Nat} {f : Nat → Int32} {i : Int32} (he : h.1 a = .inl (zg_c G 0, N, .inl f)) (hB : zg_B G ≤ a) (hB2 : a < h.2) (hin : vp_in i N) (hd : decode cc pc = .ok (.iaload, 1)) (kk : zv G l y cc n r d mc ms (pc + 1) lv (.int (f i.toNatClampNeg) :: st) h Q) : zv G l y cc n r d mc ms pc lv (.int i :: .ref a :: st) h Q := by
  intro p e R s m args below meth c Qf C H locs cells slots ls hW hL h1 h2 hl
  have hat := hW.2.2.2 a hB hB2
  rw [he] at hat
  have hlt : i.toNatClampNeg < N := Nat.not_le.mp fun q => hin (Or.inr q)
  exact W.iald (v := .int (f i.toNatClampNeg)) C.1.1 C.1.2.1 hat ((C.2.2.1.1.2 0 _ rfl).1 N (fun j => .int (f j))) (fun q => by cases q) (by show ¬ (i < 0 ∨ (arrV _ _ _).slots.size ≤ _); rw [arrV_size]; exact hin) (by show (arrV _ _ _).slots[_]? = _; rw [arrV_read _ _ hlt]) rfl rfl hd (kk p e R s m args below meth c Qf C H locs cells slots ls hW hL h1 h2 hl)
theorem zv_zald {N : Nat} {f : Nat → Int32} {i : Int32} (he : h.1 a = .inl (zg_c G 2, N, .inl f)) (hB : zg_B G ≤ a) (hB2 : a < h.2) (hin : vp_in i N) (hd : decode cc pc = .ok (.baload, 1)) (kk : zv G l y cc n r d mc ms (pc + 1) lv (.int (f i.toNatClampNeg) :: st) h Q) : zv G l y cc n r d mc ms pc lv (.int i :: .ref a :: st) h Q := by
  intro p e R s m args below meth c Qf C H locs cells slots ls hW hL h1 h2 hl
  have hat := hW.2.2.2 a hB hB2
  rw [he] at hat
  have hlt : i.toNatClampNeg < N := Nat.not_le.mp fun q => hin (Or.inr q)
  exact W.zald (v := .int (f i.toNatClampNeg)) C.1.1 C.1.2.1 hat ((C.2.2.1.1.2 2 _ rfl).1 N (fun j => .int (f j))) (fun q => by cases q) (by show ¬ (i < 0 ∨ (arrV _ _ _).slots.size ≤ _); rw [arrV_size]; exact hin) (by show (arrV _ _ _).slots[_]? = _; rw [arrV_read _ _ hlt]) rfl rfl hd (kk p e R s m args below meth c Qf C H locs cells slots ls hW hL h1 h2 hl)
theorem zv_lald {N : Nat} {f : Nat → Int64} {i : Int32} (he : h.1 a = .inl (zg_c G 1, N, .inr (.inl f))) (hB : zg_B G ≤ a) (hB2 : a < h.2) (hin : vp_in i N) (hd : decode cc pc = .ok (.laload, 1)) (kk : zv G l y cc n r d mc ms (pc + 1) lv (.long (f i.toNatClampNeg) :: st) h Q) : zv G l y cc n r d mc ms pc lv (.int i :: .ref a :: st) h Q := by
  intro p e R s m args below meth c Qf C H locs cells slots ls hW hL h1 h2 hl
  have hat := hW.2.2.2 a hB hB2
  rw [he] at hat
  have hlt : i.toNatClampNeg < N := Nat.not_le.mp fun q => hin (Or.inr q)
  exact W.lald (v := .long (f i.toNatClampNeg)) C.1.1 C.1.2.1 hat ((C.2.2.1.1.2 1 _ rfl).1 N (fun j => .long (f j))) (fun q => by cases q) (by show ¬ (i < 0 ∨ (arrV _ _ _).slots.size ≤ _); rw [arrV_size]; exact hin) (by show (arrV _ _ _).slots[_]? = _; rw [arrV_read _ _ hlt]) rfl rfl hd (kk p e R s m args below meth c Qf C H locs cells slots ls hW hL h1 h2 hl)
theorem zv_aald3 {N : Nat} {f : Nat → Option Nat} {i : Int32} (he : h.1 a = .inl (zg_c G 3, N, .inr (.inr (.inr (.inr f))))) (hB : zg_B G ≤ a) (hB2 : a < h.2) (hin : vp_in i N) (hd : decode cc pc = .ok (.aaload, 1)) (kk : zv G l y cc n r d mc ms (pc + 1) lv (va_rf (f i.toNatClampNeg) :: st) h Q) : zv G l y cc n r d mc ms pc lv (.int i :: .ref a :: st) h Q := by
  intro p e R s m args below meth c Qf C H locs cells slots ls hW hL h1 h2 hl
  have hat := hW.2.2.2 a hB hB2
  rw [he] at hat
  have hlt : i.toNatClampNeg < N := Nat.not_le.mp fun q => hin (Or.inr q)
  exact W.aald (v := va_rf (f i.toNatClampNeg)) (ty := .object RX5) C.1.1 C.1.2.1 hat ((C.2.2.1.1.2 3 _ rfl).1 N (fun j => va_rf (f j))) rfl (fun q => by cases q) (by show ¬ (i < 0 ∨ (arrV _ _ _).slots.size ≤ _); rw [arrV_size]; exact hin) (by show (arrV _ _ _).slots[_]? = _; rw [arrV_read _ _ hlt]) rfl rfl hd (kk p e R s m args below meth c Qf C H locs cells slots ls hW hL h1 h2 hl)
theorem zv_aald4 {N : Nat} {f : Nat → Option Nat} {i : Int32} (he : h.1 a = .inl (zg_c G 4, N, .inr (.inr (.inr (.inr f))))) (hB : zg_B G ≤ a) (hB2 : a < h.2) (hin : vp_in i N) (hd : decode cc pc = .ok (.aaload, 1)) (kk : zv G l y cc n r d mc ms (pc + 1) lv (va_rf (f i.toNatClampNeg) :: st) h Q) : zv G l y cc n r d mc ms pc lv (.int i :: .ref a :: st) h Q := by
  intro p e R s m args below meth c Qf C H locs cells slots ls hW hL h1 h2 hl
  have hat := hW.2.2.2 a hB hB2
  rw [he] at hat
  have hlt : i.toNatClampNeg < N := Nat.not_le.mp fun q => hin (Or.inr q)
  exact W.aald (v := va_rf (f i.toNatClampNeg)) (ty := .object RX4) C.1.1 C.1.2.1 hat ((C.2.2.1.1.2 4 _ rfl).1 N (fun j => va_rf (f j))) rfl (fun q => by cases q) (by show ¬ (i < 0 ∨ (arrV _ _ _).slots.size ≤ _); rw [arrV_size]; exact hin) (by show (arrV _ _ _).slots[_]? = _; rw [arrV_read _ _ hlt]) rfl rfl hd (kk p e R s m args below meth c Qf C H locs cells slots ls hW hL h1 h2 hl)
theorem zv_iast {N : Nat} {f : Nat → Int32} {i : Int32} {x : Int32} (he : h.1 a = .inl (zg_c G 0, N, .inl f)) (hB : zg_B G ≤ a) (hB2 : a < h.2) (hin : vp_in i N) (hd : decode cc pc = .ok (.iastore, 1)) (kk : zv G l y cc n r d mc ms (pc + 1) lv st (va_up h.1 a (.inl (zg_c G 0, N, .inl (upd f i.toNatClampNeg x))), h.2) Q) : zv G l y cc n r d mc ms pc lv (.int x :: .int i :: .ref a :: st) h Q := by
  intro p e R s m args below meth c Qf C H locs cells slots ls hW hL h1 h2 hl
  have hat := hW.2.2.2 a hB hB2
  rw [he] at hat
  have hlt : i.toNatClampNeg < N := Nat.not_le.mp fun q => hin (Or.inr q)
  refine W.iast C.1.1 C.1.2.1 hat ((C.2.2.1.1.2 0 _ rfl).1 N (fun j => .int (f j))) (fun q => by cases q) (by show ¬ (i < 0 ∨ (arrV _ _ _).slots.size ≤ _); rw [arrV_size]; exact hin) rfl rfl hd fun H1 e1 z oq => ?_
  refine kk p e R s m args below meth c Qf C H1 _ cells slots ls (hW.put hB ?_ z oq) (fun q hq => by
    rcases List.mem_append.mp hq with h | h
    · exact hL q h
    · rw [List.mem_singleton.mp h]; exact hB) h1 h2 hl
  show H1[a]? = some (vp_cell _ _)
  rw [e1]
  rw [vp_cell_i, vp_cell_i, arrV_store]
  congr 2
  funext q
  by_cases hq : q = i.toNatClampNeg
  · subst hq
    simp [updV, upd]
  · simp [updV, upd, hq]
theorem zv_last {N : Nat} {f : Nat → Int64} {i : Int32} {x : Int64} (he : h.1 a = .inl (zg_c G 1, N, .inr (.inl f))) (hB : zg_B G ≤ a) (hB2 : a < h.2) (hin : vp_in i N) (hd : decode cc pc = .ok (.lastore, 1)) (kk : zv G l y cc n r d mc ms (pc + 1) lv st (va_up h.1 a (.inl (zg_c G 1, N, .inr (.inl (vp_updL f i.toNatClampNeg x)))), h.2) Q) : zv G l y cc n r d mc ms pc lv (.long x :: .int i :: .ref a :: st) h Q := by
  intro p e R s m args below meth c Qf C H locs cells slots ls hW hL h1 h2 hl
  have hat := hW.2.2.2 a hB hB2
  rw [he] at hat
  have hlt : i.toNatClampNeg < N := Nat.not_le.mp fun q => hin (Or.inr q)
  refine W.last C.1.1 C.1.2.1 hat ((C.2.2.1.1.2 1 _ rfl).1 N (fun j => .long (f j))) (fun q => by cases q) (by show ¬ (i < 0 ∨ (arrV _ _ _).slots.size ≤ _); rw [arrV_size]; exact hin) rfl rfl hd fun H1 e1 z oq => ?_
  refine kk p e R s m args below meth c Qf C H1 _ cells slots ls (hW.put hB ?_ z oq) (fun q hq => by
    rcases List.mem_append.mp hq with h | h
    · exact hL q h
    · rw [List.mem_singleton.mp h]; exact hB) h1 h2 hl
  show H1[a]? = some (vp_cell _ _)
  rw [e1]
  rw [vp_cell_l, vp_cell_l, arrV_store]
  congr 2
  funext q
  by_cases hq : q = i.toNatClampNeg
  · subst hq
    simp [updV, vp_updL]
  · simp [updV, vp_updL, hq]
theorem zv_zast {N : Nat} {f : Nat → Int32} {i : Int32} {x : Int32} (he : h.1 a = .inl (zg_c G 2, N, .inl f)) (hB : zg_B G ≤ a) (hB2 : a < h.2) (hin : vp_in i N) (hnar : narrow .boolean (.int x) = .int x) (hd : decode cc pc = .ok (.bastore, 1)) (kk : zv G l y cc n r d mc ms (pc + 1) lv st (va_up h.1 a (.inl (zg_c G 2, N, .inl (upd f i.toNatClampNeg x))), h.2) Q) : zv G l y cc n r d mc ms pc lv (.int x :: .int i :: .ref a :: st) h Q := by
  intro p e R s m args below meth c Qf C H locs cells slots ls hW hL h1 h2 hl
  have hat := hW.2.2.2 a hB hB2
  rw [he] at hat
  have hlt : i.toNatClampNeg < N := Nat.not_le.mp fun q => hin (Or.inr q)
  refine W.zast C.1.1 C.1.2.1 hat ((C.2.2.1.1.2 2 _ rfl).1 N (fun j => .int (f j))) (fun q => by cases q) (by show ¬ (i < 0 ∨ (arrV _ _ _).slots.size ≤ _); rw [arrV_size]; exact hin) rfl rfl hd fun H1 e1 z oq => ?_
  refine kk p e R s m args below meth c Qf C H1 _ cells slots ls (hW.put hB ?_ z oq) (fun q hq => by
    rcases List.mem_append.mp hq with h | h
    · exact hL q h
    · rw [List.mem_singleton.mp h]; exact hB) h1 h2 hl
  show H1[a]? = some (vp_cell _ _)
  rw [e1, hnar]
  rw [vp_cell_i, vp_cell_i, arrV_store]
  congr 2
  funext q
  by_cases hq : q = i.toNatClampNeg
  · subst hq
    simp [updV, upd]
  · simp [updV, upd, hq]
theorem zv_aast3 {N ci b : Nat} {f : Nat → Option Nat} {i : Int32} {q0 : vw_C} {vs : List Value} (he : h.1 a = .inl (zg_c G 3, N, .inr (.inr (.inr (.inr f))))) (hB : zg_B G ≤ a) (hB2 : a < h.2) (hin : vp_in i N) (hv : h.1 b = .inr (ci, vs)) (hv1 : zg_B G ≤ b) (hv2 : b < h.2) (hc : vwCl[ci]? = some q0) (hcs : (q0.1, RX5) ∈ zh_cs ∨ q0.1 = RX5) (hd : decode cc pc = .ok (.aastore, 1)) (kk : zv G l y cc n r d mc ms (pc + 1) lv st (va_up h.1 a (.inl (zg_c G 3, N, .inr (.inr (.inr (.inr (va_up f i.toNatClampNeg (some b))))))), h.2) Q) : zv G l y cc n r d mc ms pc lv (.ref b :: .int i :: .ref a :: st) h Q := by
  intro p e R s m args below meth c Qf C H locs cells slots ls hW hL h1 h2 hl
  have hat := hW.2.2.2 a hB hB2
  rw [he] at hat
  have hlt : i.toNatClampNeg < N := Nat.not_le.mp fun q => hin (Or.inr q)
  have hatv := hW.2.2.2 b hv1 hv2
  rw [hv] at hatv
  obtain ⟨r', hr', cellV, g1, g2, g3, -⟩ := hatv
  have hcls := (C.2.2.1.1.1 ci q0 hc).2
  obtain ⟨kA, comp, k1, k2, k3, -⟩ := (C.2.2.1.1.2 3 _ rfl).2
  obtain ⟨kC, hkC, -⟩ := hcls.2
  have h0 : ¬ i < 0 := fun q => hin (Or.inl q)
  have hasg : s.vm.assignable (G.1.1 ci) comp = true := by
    rcases hcs with hcs | hcs
    · obtain ⟨c0, t0, f1, f2, f3⟩ := Cond.castable_spec (va_Nw.use (A := args) rfl (C.2.2.1.2.2.2.1 _ hcs))
      cases hcls.1.symm.trans f1
      cases k3.symm.trans f2
      exact f3
    · have e0 := hcls.1
      rw [hcs] at e0
      cases k3.symm.trans e0
      exact va_assign hcls
  obtain ⟨kcomp, hkcomp, -⟩ := Vm.findClass_spec k3
  refine W.aast C.1.1 C.1.2.1 hat (fun q h => by cases h) (fun h => by cases h) k1 k2 rfl hkcomp ⟨h0, by show _ < (arrV _ _ _).slots.size; rw [arrV_size]; exact hlt⟩ g1 (fun q h => by rw [g3] at h; cases h) (by rw [g2]; exact hkC) (by rw [g2]; exact hasg) rfl rfl hd fun H1 e1 z oq => ?_
  refine kk p e R s m args below meth c Qf C H1 _ cells slots ls (hW.put hB ?_ z oq) (fun q hq => by
    rcases List.mem_append.mp hq with h | h
    · exact hL q h
    · rw [List.mem_singleton.mp h]; exact hB) h1 h2 hl
  show H1[a]? = some (vp_cell _ _)
  rw [e1]
  rw [vp_cell_q, vp_cell_q, arrV_store]
  congr 2
  funext q
  by_cases hq : q = i.toNatClampNeg
  · subst hq
    simp [updV, va_up, va_rf]
  · simp [updV, va_up, hq]
theorem zv_aast4 {N ci b : Nat} {f : Nat → Option Nat} {i : Int32} {q0 : vw_C} {vs : List Value} (he : h.1 a = .inl (zg_c G 4, N, .inr (.inr (.inr (.inr f))))) (hB : zg_B G ≤ a) (hB2 : a < h.2) (hin : vp_in i N) (hv : h.1 b = .inr (ci, vs)) (hv1 : zg_B G ≤ b) (hv2 : b < h.2) (hc : vwCl[ci]? = some q0) (hcs : (q0.1, RX4) ∈ zh_cs ∨ q0.1 = RX4) (hd : decode cc pc = .ok (.aastore, 1)) (kk : zv G l y cc n r d mc ms (pc + 1) lv st (va_up h.1 a (.inl (zg_c G 4, N, .inr (.inr (.inr (.inr (va_up f i.toNatClampNeg (some b))))))), h.2) Q) : zv G l y cc n r d mc ms pc lv (.ref b :: .int i :: .ref a :: st) h Q := by
  intro p e R s m args below meth c Qf C H locs cells slots ls hW hL h1 h2 hl
  have hat := hW.2.2.2 a hB hB2
  rw [he] at hat
  have hlt : i.toNatClampNeg < N := Nat.not_le.mp fun q => hin (Or.inr q)
  have hatv := hW.2.2.2 b hv1 hv2
  rw [hv] at hatv
  obtain ⟨r', hr', cellV, g1, g2, g3, -⟩ := hatv
  have hcls := (C.2.2.1.1.1 ci q0 hc).2
  obtain ⟨kA, comp, k1, k2, k3, -⟩ := (C.2.2.1.1.2 4 _ rfl).2
  obtain ⟨kC, hkC, -⟩ := hcls.2
  have h0 : ¬ i < 0 := fun q => hin (Or.inl q)
  have hasg : s.vm.assignable (G.1.1 ci) comp = true := by
    rcases hcs with hcs | hcs
    · obtain ⟨c0, t0, f1, f2, f3⟩ := Cond.castable_spec (va_Nw.use (A := args) rfl (C.2.2.1.2.2.2.1 _ hcs))
      cases hcls.1.symm.trans f1
      cases k3.symm.trans f2
      exact f3
    · have e0 := hcls.1
      rw [hcs] at e0
      cases k3.symm.trans e0
      exact va_assign hcls
  obtain ⟨kcomp, hkcomp, -⟩ := Vm.findClass_spec k3
  refine W.aast C.1.1 C.1.2.1 hat (fun q h => by cases h) (fun h => by cases h) k1 k2 rfl hkcomp ⟨h0, by show _ < (arrV _ _ _).slots.size; rw [arrV_size]; exact hlt⟩ g1 (fun q h => by rw [g3] at h; cases h) (by rw [g2]; exact hkC) (by rw [g2]; exact hasg) rfl rfl hd fun H1 e1 z oq => ?_
  refine kk p e R s m args below meth c Qf C H1 _ cells slots ls (hW.put hB ?_ z oq) (fun q hq => by
    rcases List.mem_append.mp hq with h | h
    · exact hL q h
    · rw [List.mem_singleton.mp h]; exact hB) h1 h2 hl
  show H1[a]? = some (vp_cell _ _)
  rw [e1]
  rw [vp_cell_q, vp_cell_q, arrV_store]
  congr 2
  funext q
  by_cases hq : q = i.toNatClampNeg
  · subst hq
    simp [updV, va_up, va_rf]
  · simp [updV, va_up, hq]
theorem zv_aast3N {N : Nat} {f : Nat → Option Nat} {i : Int32} (he : h.1 a = .inl (zg_c G 3, N, .inr (.inr (.inr (.inr f))))) (hB : zg_B G ≤ a) (hB2 : a < h.2) (hin : vp_in i N) (hd : decode cc pc = .ok (.aastore, 1)) (kk : zv G l y cc n r d mc ms (pc + 1) lv st (va_up h.1 a (.inl (zg_c G 3, N, .inr (.inr (.inr (.inr (va_up f i.toNatClampNeg none)))))), h.2) Q) : zv G l y cc n r d mc ms pc lv (.null :: .int i :: .ref a :: st) h Q := by
  intro p e R s m args below meth c Qf C H locs cells slots ls hW hL h1 h2 hl
  have hat := hW.2.2.2 a hB hB2
  rw [he] at hat
  have hlt : i.toNatClampNeg < N := Nat.not_le.mp fun q => hin (Or.inr q)
  refine va_WaastN (C := RX5) C.1.1 C.1.2.1 hat ((C.2.2.1.1.2 3 _ rfl).1 N (fun j => va_rf (f j))) (fun h => by cases h) (by show ¬ (i < 0 ∨ (arrV _ _ _).slots.size ≤ _); rw [arrV_size]; exact hin) rfl rfl hd fun H1 e1 z oq => ?_
  refine kk p e R s m args below meth c Qf C H1 _ cells slots ls (hW.put hB ?_ z oq) (fun q hq => by
    rcases List.mem_append.mp hq with h | h
    · exact hL q h
    · rw [List.mem_singleton.mp h]; exact hB) h1 h2 hl
  show H1[a]? = some (vp_cell _ _)
  rw [e1]
  rw [vp_cell_q, vp_cell_q, arrV_store]
  congr 2
  funext q
  by_cases hq : q = i.toNatClampNeg
  · subst hq
    simp [updV, va_up, va_rf]
  · simp [updV, va_up, hq]
theorem zv_gets {idx : Nat} (hf : Cond.fieldLink y.cls idx "ProbeRacks" "GOES_INTO" "[I" ∈ zw) (hd : decode cc pc = .ok (.getstatic idx, 3)) (kk : zv G l y cc n r d mc ms (pc + 3) lv (.ref (zg_a G) :: st) h Q) : zv G l y cc n r d mc ms pc lv st h Q := by
  intro p e R s m args below meth c Qf C H locs cells slots ls hW hL h1 h2 hl
  obtain ⟨cf, kf, fi, f, a1, cell, f1, f2, f3, f4, f5, f6, f7, f8⟩ := C.2.2.1.2.2.2.2.2.2.1
  exact W.gets C.1.1 C.1.2.1 C.1.2.2.2.1 (C.2.1 _ hf) f1 f2 f3 f4 (by rw [hW.2.2.1 a1 (Nat.not_le.mp f8)]; exact f5) (fun e => by rw [e] at f6; cases f6) f7 rfl hd (kk p e R s m args below meth c Qf C H locs cells slots ls hW hL h1 h2 hl)
theorem zv_gald {i : Int32} (hin : vp_in i 11) (hd : decode cc pc = .ok (.iaload, 1)) (kk : zv G l y cc n r d mc ms (pc + 1) lv (.int (zg_tab i.toNatClampNeg) :: st) h Q) : zv G l y cc n r d mc ms pc lv (.int i :: .ref (zg_a G) :: st) h Q := by
  intro p e R s m args below meth c Qf C H locs cells slots ls hW hL h1 h2 hl
  obtain ⟨cell, f1, f2, f3, f4, f5, f6, f7⟩ := C.2.2.1.2.2.2.2.2.2.2
  have hlt : i.toNatClampNeg < 11 := Nat.not_le.mp fun q => hin (Or.inr q)
  exact W.iald (v := .int (zg_tab i.toNatClampNeg)) C.1.1 C.1.2.1 (by rw [hW.2.2.1 _ (Nat.not_le.mp f7)]; exact f1) f2 f3 (fun q => q.elim (fun q => hin (Or.inl q)) (fun q => by omega)) (f6 _ hlt) rfl rfl hd (kk p e R s m args below meth c Qf C H locs cells slots ls hW hL h1 h2 hl)
/-- the class that 'own' names idx is class ci, its fields at birth fs -/
def zn (own : String) (idx ci N : Nat) (fs : List Value) : Prop := ∃ (Cn : String) (T : u_T) (ty : Nat → FieldType), vwCl[ci]? = some (Cn, T, N) ∧ (∀ w ∈ u_ws Cn T N, w ∈ zw) ∧ (∀ k, k < N → parseFieldDescriptor (T k).2.2.1 = some (ty k)) ∧ Cond.classLink own idx Cn ∈ zw ∧ Cond.instantiable Cn N ∈ zw ∧ Cond.initialized Cn ∈ zw ∧ (∀ j, j < N → defaultValue (ty j) = vp_V fs j)
theorem zv_new {idx ci N : Nat} {fs : List Value} (hf : zn y.cls idx ci N fs) (hd : decode cc pc = .ok (.new idx, 3)) (kk : zv G l y cc n r d mc ms (pc + 3) lv (.ref h.2 :: st) (va_up h.1 h.2 (.inr (ci, fs)), h.2 + 1) Q) : zv G l y cc n r d (mc + 1) (ms + N) pc lv st h Q := by
  intro p e R s m args below meth c Qf C H locs cells slots ls hW hL h1 h2 hl
  obtain ⟨Cn, T, ty, hc, hin, hty, hcl, hins, hini, hfs⟩ := hf
  have hKn := C.2.2.1.1.1 ci _ hc
  refine W.newcK C.1.1 C.1.2.1 C.1.2.2.2.1 (C.2.1 _ hcl) (C.2.1 _ hins) (C.2.1 _ hini) rfl hd (by omega) (by omega) hKn.2.1 hW.1 fun H1 kC hkC e1 z1 o1 => ?_
  refine kk p e R s m args below meth c Qf C H1 _ (cells + 1) (slots + N) ls (hW.push ?_ (by rw [z1, hW.1]) (fun q hq => o1 q (by rw [← hW.1]; exact hq))) hL (by omega) (by omega) hl
  exact ⟨_, hc, (u_born ty C.2.1 hin hKn hkC e1 hty).to hfs⟩
theorem zv_newI {N : Nat} {i : Int32} (harr : Cond.arrayClass .int ∈ zw) (hi : ¬ i < 0) (hN : i.toNatClampNeg = N) (hbytes : N * 8 ≤ 536870912) (hd : decode cc pc = .ok (.newarray .int, 2)) (kk : zv G l y cc n r d mc ms (pc + 2) lv (.ref h.2 :: st) (va_up h.1 h.2 (.inl (zg_c G 0, N, .inl (fun _ => 0))), h.2 + 1) Q) : zv G l y cc n r d (mc + 1) (ms + N) pc lv (.int i :: st) h Q := by
  intro p e R s m args below meth c Qf C H locs cells slots ls hW hL h1 h2 hl
  refine va_newaK (atype := .int) C.1.1 C.1.2.1 (C.2.1 _ harr) rfl hd rfl hi hN (by simp [newarray.typeOf, componentBytes]; omega) (by omega) (by omega) hW.1 fun H1 cA e1 z1 o1 hAr hNm => ?_
  have hcA : cA = zg_c G 0 := Option.some.inj (hNm.symm.trans (C.2.2.1.1.2 0 _ rfl).2)
  subst hcA
  exact kk p e R s m args below meth c Qf C H1 _ (cells + 1) (slots + N) ls (hW.push e1 (by rw [z1, hW.1]) (fun q hq => o1 q (by rw [← hW.1]; exact hq))) hL (by omega) (by omega) hl
theorem zv_newJ {N : Nat} {i : Int32} (harr : Cond.arrayClass .long ∈ zw) (hi : ¬ i < 0) (hN : i.toNatClampNeg = N) (hbytes : N * 8 ≤ 536870912) (hd : decode cc pc = .ok (.newarray .long, 2)) (kk : zv G l y cc n r d mc ms (pc + 2) lv (.ref h.2 :: st) (va_up h.1 h.2 (.inl (zg_c G 1, N, .inr (.inl (fun _ => 0)))), h.2 + 1) Q) : zv G l y cc n r d (mc + 1) (ms + N) pc lv (.int i :: st) h Q := by
  intro p e R s m args below meth c Qf C H locs cells slots ls hW hL h1 h2 hl
  refine va_newaK (atype := .long) C.1.1 C.1.2.1 (C.2.1 _ harr) rfl hd rfl hi hN (by simp [newarray.typeOf, componentBytes]; omega) (by omega) (by omega) hW.1 fun H1 cA e1 z1 o1 hAr hNm => ?_
  have hcA : cA = zg_c G 1 := Option.some.inj (hNm.symm.trans (C.2.2.1.1.2 1 _ rfl).2)
  subst hcA
  exact kk p e R s m args below meth c Qf C H1 _ (cells + 1) (slots + N) ls (hW.push e1 (by rw [z1, hW.1]) (fun q hq => o1 q (by rw [← hW.1]; exact hq))) hL (by omega) (by omega) hl
theorem zv_newZ {N : Nat} {i : Int32} (harr : Cond.arrayClass .boolean ∈ zw) (hi : ¬ i < 0) (hN : i.toNatClampNeg = N) (hbytes : N * 8 ≤ 536870912) (hd : decode cc pc = .ok (.newarray .boolean, 2)) (kk : zv G l y cc n r d mc ms (pc + 2) lv (.ref h.2 :: st) (va_up h.1 h.2 (.inl (zg_c G 2, N, .inl (fun _ => 0))), h.2 + 1) Q) : zv G l y cc n r d (mc + 1) (ms + N) pc lv (.int i :: st) h Q := by
  intro p e R s m args below meth c Qf C H locs cells slots ls hW hL h1 h2 hl
  refine va_newaK (atype := .boolean) C.1.1 C.1.2.1 (C.2.1 _ harr) rfl hd rfl hi hN (by simp [newarray.typeOf, componentBytes]; omega) (by omega) (by omega) hW.1 fun H1 cA e1 z1 o1 hAr hNm => ?_
  have hcA : cA = zg_c G 2 := Option.some.inj (hNm.symm.trans (C.2.2.1.1.2 2 _ rfl).2)
  subst hcA
  exact kk p e R s m args below meth c Qf C H1 _ (cells + 1) (slots + N) ls (hW.push e1 (by rw [z1, hW.1]) (fun q hq => o1 q (by rw [← hW.1]; exact hq))) hL (by omega) (by omega) hl
theorem zv_newT {N idx : Nat} {i : Int32} (hcl : Cond.classLink y.cls idx RX5 ∈ zw) (hi : ¬ i < 0) (hN : i.toNatClampNeg = N) (hbytes : N * 4 ≤ 536870912) (hd : decode cc pc = .ok (.anewarray idx, 3)) (kk : zv G l y cc n r d mc ms (pc + 3) lv (.ref h.2 :: st) (va_up h.1 h.2 (.inl (zg_c G 3, N, .inr (.inr (.inr (.inr (fun _ => none)))))), h.2 + 1) Q) : zv G l y cc n r d (mc + 1) (ms + N) pc lv (.int i :: st) h Q := by
  intro p e R s m args below meth c Qf C H locs cells slots ls hW hL h1 h2 hl
  subst hN
  refine W.anew C.1.1 C.1.2.1 C.1.2.2.2.1 (C.2.1 _ hcl) (va_AO.use C.2.2.1.2.2.2.2.2.1.1) rfl hd rfl hi hbytes (by omega) (by omega) fun cA kA comp f1 f2 f3 f4 => ?_
  obtain ⟨kA2, comp2, k1, k2, k3, k4⟩ := (C.2.2.1.1.2 3 _ rfl).2
  have hcA : cA = zg_c G 3 := Option.some.inj (f1.symm.trans k4)
  subst hcA
  generalize hH1 : H.push ({ cls := zg_c G 3, slots := Array.replicate i.toNatClampNeg .null, vm := .none } : Cell) = H1
  have z1 : H1.size = H.size + 1 := by rw [← hH1, Array.size_push]
  have e1 : H1[H.size]? = some (arrV (zg_c G 3) i.toNatClampNeg (fun _ => .null)) := by rw [← hH1, Array.getElem?_push_size, ← arrV_new]
  have o1 : ∀ q : Nat, q < H.size → H1[q]? = H[q]? := fun q hq => by rw [← hH1, Array.getElem?_push, if_neg (Nat.ne_of_lt hq)]
  rw [hW.1] at e1
  have hsz : H.size = h.2 := hW.1
  refine W.eq (g2 := F0 m (pc + 3) ls (.ref h.2 :: st)) (by rw [← hsz]) ?_
  exact kk p e R s m args below meth c Qf C H1 _ (cells + 1) (slots + i.toNatClampNeg) ls (hW.push e1 z1 o1) hL (by omega) (by omega) hl
theorem zv_newS {N idx : Nat} {i : Int32} (hcl : Cond.classLink y.cls idx RX4 ∈ zw) (hi : ¬ i < 0) (hN : i.toNatClampNeg = N) (hbytes : N * 4 ≤ 536870912) (hd : decode cc pc = .ok (.anewarray idx, 3)) (kk : zv G l y cc n r d mc ms (pc + 3) lv (.ref h.2 :: st) (va_up h.1 h.2 (.inl (zg_c G 4, N, .inr (.inr (.inr (.inr (fun _ => none)))))), h.2 + 1) Q) : zv G l y cc n r d (mc + 1) (ms + N) pc lv (.int i :: st) h Q := by
  intro p e R s m args below meth c Qf C H locs cells slots ls hW hL h1 h2 hl
  subst hN
  refine W.anew C.1.1 C.1.2.1 C.1.2.2.2.1 (C.2.1 _ hcl) (va_AO.use C.2.2.1.2.2.2.2.2.1.2) rfl hd rfl hi hbytes (by omega) (by omega) fun cA kA comp f1 f2 f3 f4 => ?_
  obtain ⟨kA2, comp2, k1, k2, k3, k4⟩ := (C.2.2.1.1.2 4 _ rfl).2
  have hcA : cA = zg_c G 4 := Option.some.inj (f1.symm.trans k4)
  subst hcA
  generalize hH1 : H.push ({ cls := zg_c G 4, slots := Array.replicate i.toNatClampNeg .null, vm := .none } : Cell) = H1
  have z1 : H1.size = H.size + 1 := by rw [← hH1, Array.size_push]
  have e1 : H1[H.size]? = some (arrV (zg_c G 4) i.toNatClampNeg (fun _ => .null)) := by rw [← hH1, Array.getElem?_push_size, ← arrV_new]
  have o1 : ∀ q : Nat, q < H.size → H1[q]? = H[q]? := fun q hq => by rw [← hH1, Array.getElem?_push, if_neg (Nat.ne_of_lt hq)]
  rw [hW.1] at e1
  have hsz : H.size = h.2 := hW.1
  refine W.eq (g2 := F0 m (pc + 3) ls (.ref h.2 :: st)) (by rw [← hsz]) ?_
  exact kk p e R s m args below meth c Qf C H1 _ (cells + 1) (slots + i.toNatClampNeg) ls (hW.push e1 z1 o1) hL (by omega) (by omega) hl
theorem zh_recv {ci : Nat} {fs : List Value} {q0 : vw_C} (hK : zh_K G s) (hW : zh_W G h H) (he : h.1 a = .inr (ci, fs)) (hB : zg_B G ≤ a) (hB2 : a < h.2) (hc : vwCl[ci]? = some q0) : ∃ cell : Cell, H[a]? = some cell ∧ cell.vm.isStatics = false ∧ s.vm.findClass q0.1 = some cell.cls := by
  have hat := hW.2.2.2 a hB hB2
  rw [he] at hat
  obtain ⟨r', hr', cell, g1, g2, g3, -⟩ := hat
  exact ⟨cell, g1, by rw [g3]; rfl, by rw [g2]; exact (hK.1.1 ci q0 hc).2.1⟩
theorem zv_instY {idx ci : Nat} {fs : List Value} {q0 : vw_C} {nm : String} (he : h.1 a = .inr (ci, fs)) (hB : zg_B G ≤ a) (hB2 : a < h.2) (hc : vwCl[ci]? = some q0) (hl0 : Cond.classLink y.cls idx nm ∈ zw) (hcs : (q0.1, nm) ∈ zh_cs) (hd : decode cc pc = .ok (.instanceof idx, 3)) (kk : zv G l y cc n r d mc ms (pc + 3) lv (.int 1 :: st) h Q) : zv G l y cc n r d mc ms pc lv (.ref a :: st) h Q := by
  intro p e R s m args below meth c Qf C H locs cells slots ls hW hL h1 h2 hl
  exact va_instY C.1.1 C.1.2.1 C.1.2.2.2.1 (C.2.1 _ hl0) (C.2.2.1.2.2.2.1 _ hcs) (zh_recv C.2.2.1 hW he hB hB2 hc) hd (kk p e R s m args below meth c Qf C H locs cells slots ls hW hL h1 h2 hl)
theorem zv_instNo {idx ci : Nat} {fs : List Value} {q0 : vw_C} {nm : String} (he : h.1 a = .inr (ci, fs)) (hB : zg_B G ≤ a) (hB2 : a < h.2) (hc : vwCl[ci]? = some q0) (hl0 : Cond.classLink y.cls idx nm ∈ zw) (hcs : (q0.1, nm) ∈ zh_nc) (hd : decode cc pc = .ok (.instanceof idx, 3)) (kk : zv G l y cc n r d mc ms (pc + 3) lv (.int 0 :: st) h Q) : zv G l y cc n r d mc ms pc lv (.ref a :: st) h Q := by
  intro p e R s m args below meth c Qf C H locs cells slots ls hW hL h1 h2 hl
  exact va_instNo C.1.1 C.1.2.1 C.1.2.2.2.1 (C.2.1 _ hl0) (C.2.2.1.2.2.2.2.1 _ hcs) (zh_recv C.2.2.1 hW he hB hB2 hc) hd (kk p e R s m args below meth c Qf C H locs cells slots ls hW hL h1 h2 hl)
theorem zv_castY {idx ci : Nat} {fs : List Value} {q0 : vw_C} {nm : String} (he : h.1 a = .inr (ci, fs)) (hB : zg_B G ≤ a) (hB2 : a < h.2) (hc : vwCl[ci]? = some q0) (hl0 : Cond.classLink y.cls idx nm ∈ zw) (hcs : (q0.1, nm) ∈ zh_cs) (hd : decode cc pc = .ok (.checkcast idx, 3)) (kk : zv G l y cc n r d mc ms (pc + 3) lv (.ref a :: st) h Q) : zv G l y cc n r d mc ms pc lv (.ref a :: st) h Q := by
  intro p e R s m args below meth c Qf C H locs cells slots ls hW hL h1 h2 hl
  exact va_castY C.1.1 C.1.2.1 C.1.2.2.2.1 (C.2.1 _ hl0) (C.2.2.1.2.2.2.1 _ hcs) (zh_recv C.2.2.1 hW he hB hB2 hc) hd (kk p e R s m args below meth c Qf C H locs cells slots ls hW hL h1 h2 hl)
theorem zv_instN {idx : Nat} (hd : decode cc pc = .ok (.instanceof idx, 3)) (kk : zv G l y cc n r d mc ms (pc + 3) lv (.int 0 :: st) h Q) : zv G l y cc n r d mc ms pc lv (.null :: st) h Q := by
  intro p e R s m args below meth c Qf C H locs cells slots ls hW hL h1 h2 hl
  exact lv_instN C.1.1 C.1.2.1 hd (kk p e R s m args below meth c Qf C H locs cells slots ls hW hL h1 h2 hl)
theorem zv_after {mc1 ms1 : Nat} {st0 : List Value} {Q1 : Option Value → zh_H → Prop} (hr : va_Run p l e R s m args below meth c H locs cells slots mc1 ms1 (F0 m pc ls st0) rest (fun _ oc t => ∃ (v : Option Value) (h' : zh_H), oc = .returned v ∧ Q1 v h' ∧ zh_W G h' t.heap) (fun q => zg_B G ≤ q)) (hL : ∀ q ∈ locs, zg_B G ≤ q.base) (kk : ∀ (v : Option Value) (h' : zh_H) (H1 : Heap) (locs1 : List Loc), Q1 v h' → zh_W G h' H1 → (∀ q ∈ locs1, zg_B G ≤ q.base) → W p l e R s m args below meth c H1 locs1 (cells + mc1) (slots + ms1) Qf (F0 m (pc + 3) ls (v.toList ++ rest))) : W p l e R s m args below meth c H locs cells slots Qf (F0 m pc ls st0) := by
  intro T hT X
  obtain ⟨v, st₀, t, T', L, h0, X', hLL, e1, e2, ⟨v', h', hv, hq, hw⟩, stp⟩ := hr T hT X
  cases hv
  obtain ⟨t2, a1, b1⟩ := kk v h' T'.heap (locs ++ L) hq (by rw [e1]; exact hw) (fun q hq => (List.mem_append.mp hq).elim (hL q) (hLL q)) T' rfl X'
  exact ⟨t2, stp t2 a1, b1⟩
/-- the method that 'own' names idx: its code, its link, its class; k arguments -/
def zm (own : String) (idx : Nat) (y1 : MethodName) (cc1 : ByteArray) (n1 : Nat) (r1 : Option FieldType) (k : Nat) : Prop := Cond.code y1 cc1 n1 r1 ∈ zw ∧ (Cond.methodLink own idx y1 ∈ zw ∨ (own, idx, y1) ∈ zh_nM) ∧ Cond.initialized y1.cls ∈ zw ∧ (y1.cls ≠ "java/lang/invoke/MethodHandle" ∧ y1.cls ≠ "java/lang/invoke/VarHandle" ∧ (parseMethodDescriptor y1.desc).map (fun d => d.parameters.length) = some k) ∧ n1 ≤ 8
theorem zh_good {y1 : MethodName} {cc1 : ByteArray} {n1 : Nat} {r1 : Option FieldType} (hc : Cond.code y1 cc1 n1 r1 ∈ zw) : GoodIn zw (Cond.code y1 cc1 n1 r1 :: zw) := fun w hw => (List.mem_cons.mp hw).elim (fun e => by rw [e]; exact ⟨hc, zw_good hc⟩) (fun h => ⟨h, zw_good h⟩)
theorem zh_blind {av : List Value} : FrameBlind (va_Pc av (fun U => zh_K G U ∧ zh_W G h U.heap)) := fun a U g mk hq => ⟨hq.1, hq.2.1.warm (U := U.calling g mk a) (State.WarmedH.refl U), hq.2.2⟩
theorem zv_callS {y1 : MethodName} {cc1 : ByteArray} {n1 d1 k mc1 ms1 idx : Nat} {r1 : Option FieldType} {As rest : List Value}  {Q1 : Option Value → zh_H → Prop} (hm : zm y.cls idx y1 cc1 n1 r1 k) (hs : Cond.static y1 ∈ zw) (hM : zc G l y1 cc1 n1 r1 d1 As h mc1 ms1 Q1) (hst : st = As.reverse ++ rest) (hk : As.length = k) (hcat : (rest.map fun v => v.category).sum ≤ 8) (hdd : d1 + 1 ≤ d) (hd : decode cc pc = .ok (.invokestatic idx, 3)) (kk : ∀ (v : Option Value) (h' : zh_H), Q1 v h' → zv G l y cc n r d mc ms (pc + 3) lv (v.toList ++ rest) h' Q) : zv G l y cc n r d (mc1 + mc) (ms1 + ms) pc lv st h Q := by
  intro p e R s m args below meth c Qf C H locs cells slots ls hW hL h1 h2 hl
  have hn8 := hm.2.2.2.2
  have hd1 := C.2.2.2.1
  have hrn : va_Run p l e R s m args below meth c H locs cells slots mc1 ms1 (F0 m pc ls st) rest (fun _ oc t => ∃ (v : Option Value) (h' : zh_H), oc = .returned v ∧ Q1 v h' ∧ zh_W G h' t.heap) (fun q => zg_B G ≤ q) := by
    rcases hm.2.1 with hlk | hlk
    · exact va_runS (n := k) ⟨C.1.1, C.1.2.1, C.1.2.2.1, C.1.2.2.2.1, C.2.1⟩ hM ⟨callB_of k C.2.1 (zh_good hm.1) rfl rfl rfl (C.2.1 _ hm.2.2.1) (C.2.1 _ hlk) hm.2.2.2.1 ⟨by show d1 + 1 ≤ _; omega, by show 8 + (n1 + 11) + 27 * d1 ≤ _; omega⟩, C.2.1 _ hs⟩ ⟨zh_blind, fun U hU hWm => ⟨rfl, C.2.2.1.warm hWm, by rw [hU]; exact hW⟩⟩ rfl hk hl.1 hst (lv_room hcat) hd ⟨by omega, by omega⟩
    · exact va_runSN (n := k) ⟨C.1.1, C.1.2.1, C.1.2.2.1, C.1.2.2.2.1, C.2.1⟩ hM ⟨va_cnB k C.2.1 (zh_good hm.1) rfl rfl rfl (C.2.2.1.2.2.1 _ hlk) (C.2.1 _ hm.2.2.1) hm.2.2.2.1 ⟨by show d1 + 1 ≤ _; omega, by show 8 + (n1 + 11) + 27 * d1 ≤ _; omega⟩, C.2.1 _ hs, trivial⟩ ⟨zh_blind, fun U hU hWm => ⟨rfl, C.2.2.1.warm hWm, by rw [hU]; exact hW⟩⟩ rfl hk hl.1 hst (lv_room hcat) hd ⟨by omega, by omega⟩
  exact zv_after hrn hL (fun v h' H1 locs1 hq hw hL1 => kk v h' hq p e R s m args below meth c Qf C H1 locs1 _ _ ls hw hL1 (by omega) (by omega) hl)
theorem zv_callSq {y1 : MethodName} {cc1 : ByteArray} {n1 d1 k mc1 ms1 idx : Nat} {r1 : Option FieldType} {As rest : List Value}  {v0 : Option Value} {h0 : zh_H} (hm : zm y.cls idx y1 cc1 n1 r1 k) (hs : Cond.static y1 ∈ zw) (hM : zc G l y1 cc1 n1 r1 d1 As h mc1 ms1 (fun v h' => v = v0 ∧ h' = h0)) (hst : st = As.reverse ++ rest) (hk : As.length = k) (hcat : (rest.map fun v => v.category).sum ≤ 8) (hdd : d1 + 1 ≤ d) (hd : decode cc pc = .ok (.invokestatic idx, 3)) (kk : zv G l y cc n r d mc ms (pc + 3) lv (v0.toList ++ rest) h0 Q) : zv G l y cc n r d (mc1 + mc) (ms1 + ms) pc lv st h Q := by
  intro p e R s m args below meth c Qf C H locs cells slots ls hW hL h1 h2 hl
  have hn8 := hm.2.2.2.2
  have hd1 := C.2.2.2.1
  have hrn : va_Run p l e R s m args below meth c H locs cells slots mc1 ms1 (F0 m pc ls st) rest (fun _ oc t => ∃ (v : Option Value) (h' : zh_H), oc = .returned v ∧ (fun v h' => v = v0 ∧ h' = h0) v h' ∧ zh_W G h' t.heap) (fun q => zg_B G ≤ q) := by
    rcases hm.2.1 with hlk | hlk
    · exact va_runS (n := k) ⟨C.1.1, C.1.2.1, C.1.2.2.1, C.1.2.2.2.1, C.2.1⟩ hM ⟨callB_of k C.2.1 (zh_good hm.1) rfl rfl rfl (C.2.1 _ hm.2.2.1) (C.2.1 _ hlk) hm.2.2.2.1 ⟨by show d1 + 1 ≤ _; omega, by show 8 + (n1 + 11) + 27 * d1 ≤ _; omega⟩, C.2.1 _ hs⟩ ⟨zh_blind, fun U hU hWm => ⟨rfl, C.2.2.1.warm hWm, by rw [hU]; exact hW⟩⟩ rfl hk hl.1 hst (lv_room hcat) hd ⟨by omega, by omega⟩
    · exact va_runSN (n := k) ⟨C.1.1, C.1.2.1, C.1.2.2.1, C.1.2.2.2.1, C.2.1⟩ hM ⟨va_cnB k C.2.1 (zh_good hm.1) rfl rfl rfl (C.2.2.1.2.2.1 _ hlk) (C.2.1 _ hm.2.2.1) hm.2.2.2.1 ⟨by show d1 + 1 ≤ _; omega, by show 8 + (n1 + 11) + 27 * d1 ≤ _; omega⟩, C.2.1 _ hs, trivial⟩ ⟨zh_blind, fun U hU hWm => ⟨rfl, C.2.2.1.warm hWm, by rw [hU]; exact hW⟩⟩ rfl hk hl.1 hst (lv_room hcat) hd ⟨by omega, by omega⟩
  exact zv_after hrn hL (fun v h' H1 locs1 hq hw hL1 => by obtain ⟨rfl, rfl⟩ := hq; exact kk p e R s m args below meth c Qf C H1 locs1 _ _ ls hw hL1 (by omega) (by omega) hl)
theorem zv_callV {y1 : MethodName} {cc1 : ByteArray} {n1 d1 k mc1 ms1 idx : Nat} {r1 : Option FieldType} {As rest : List Value} {b ci : Nat} {fs : List Value} {q0 : vw_C} {Q1 : Option Value → zh_H → Prop} (hm : zm y.cls idx y1 cc1 n1 r1 k) (hs : Cond.instanceMethod y1 ∈ zw ∧ Cond.selects y1.cls y1 y1 ∈ zw) (he : h.1 b = .inr (ci, fs)) (hB : zg_B G ≤ b) (hB2 : b < h.2) (hc : vwCl[ci]? = some q0) (hcn : q0.1 = y1.cls) (hM : zc G l y1 cc1 n1 r1 d1 (.ref b :: As) h mc1 ms1 Q1) (hst : st = As.reverse ++ .ref b :: rest) (hk : As.length = k) (hcat : (rest.map fun v => v.category).sum ≤ 8) (hdd : d1 + 1 ≤ d) (hd : decode cc pc = .ok (.invokevirtual idx, 3)) (kk : ∀ (v : Option Value) (h' : zh_H), Q1 v h' → zv G l y cc n r d mc ms (pc + 3) lv (v.toList ++ rest) h' Q) : zv G l y cc n r d (mc1 + mc) (ms1 + ms) pc lv st h Q := by
  intro p e R s m args below meth c Qf C H locs cells slots ls hW hL h1 h2 hl
  have hn8 := hm.2.2.2.2
  have hd1 := C.2.2.2.1
  have hrn : va_Run p l e R s m args below meth c H locs cells slots mc1 ms1 (F0 m pc ls st) rest (fun _ oc t => ∃ (v : Option Value) (h' : zh_H), oc = .returned v ∧ Q1 v h' ∧ zh_W G h' t.heap) (fun q => zg_B G ≤ q) := by
    rcases hm.2.1 with hlk | hlk
    · exact va_runV (n := k) ⟨C.1.1, C.1.2.1, C.1.2.2.1, C.1.2.2.2.1, C.2.1⟩ hM ⟨callB_of k C.2.1 (zh_good hm.1) rfl rfl rfl (C.2.1 _ hm.2.2.1) (C.2.1 _ hlk) hm.2.2.2.1 ⟨by show d1 + 1 ≤ _; omega, by show 8 + (n1 + 11) + 27 * d1 ≤ _; omega⟩, C.2.1 _ hs.1, C.2.1 _ hs.2⟩ ⟨zh_blind, (by rw [← hcn]; exact zh_recv C.2.2.1 hW he hB hB2 hc), fun U hU hWm => ⟨rfl, C.2.2.1.warm hWm, by rw [hU]; exact hW⟩⟩ rfl hk hl.1 hst (lv_room hcat) hd ⟨by omega, by omega⟩
    · exact va_runVN (n := k) ⟨C.1.1, C.1.2.1, C.1.2.2.1, C.1.2.2.2.1, C.2.1⟩ hM ⟨va_cnB k C.2.1 (zh_good hm.1) rfl rfl rfl (C.2.2.1.2.2.1 _ hlk) (C.2.1 _ hm.2.2.1) hm.2.2.2.1 ⟨by show d1 + 1 ≤ _; omega, by show 8 + (n1 + 11) + 27 * d1 ≤ _; omega⟩, C.2.1 _ hs.1, C.2.1 _ hs.2⟩ ⟨zh_blind, (by rw [← hcn]; exact zh_recv C.2.2.1 hW he hB hB2 hc), fun U hU hWm => ⟨rfl, C.2.2.1.warm hWm, by rw [hU]; exact hW⟩⟩ rfl hk hl.1 hst (lv_room hcat) hd ⟨by omega, by omega⟩
  exact zv_after hrn hL (fun v h' H1 locs1 hq hw hL1 => kk v h' hq p e R s m args below meth c Qf C H1 locs1 _ _ ls hw hL1 (by omega) (by omega) hl)
theorem zv_callVq {y1 : MethodName} {cc1 : ByteArray} {n1 d1 k mc1 ms1 idx : Nat} {r1 : Option FieldType} {As rest : List Value} {b ci : Nat} {fs : List Value} {q0 : vw_C} {v0 : Option Value} {h0 : zh_H} (hm : zm y.cls idx y1 cc1 n1 r1 k) (hs : Cond.instanceMethod y1 ∈ zw ∧ Cond.selects y1.cls y1 y1 ∈ zw) (he : h.1 b = .inr (ci, fs)) (hB : zg_B G ≤ b) (hB2 : b < h.2) (hc : vwCl[ci]? = some q0) (hcn : q0.1 = y1.cls) (hM : zc G l y1 cc1 n1 r1 d1 (.ref b :: As) h mc1 ms1 (fun v h' => v = v0 ∧ h' = h0)) (hst : st = As.reverse ++ .ref b :: rest) (hk : As.length = k) (hcat : (rest.map fun v => v.category).sum ≤ 8) (hdd : d1 + 1 ≤ d) (hd : decode cc pc = .ok (.invokevirtual idx, 3)) (kk : zv G l y cc n r d mc ms (pc + 3) lv (v0.toList ++ rest) h0 Q) : zv G l y cc n r d (mc1 + mc) (ms1 + ms) pc lv st h Q := by
  intro p e R s m args below meth c Qf C H locs cells slots ls hW hL h1 h2 hl
  have hn8 := hm.2.2.2.2
  have hd1 := C.2.2.2.1
  have hrn : va_Run p l e R s m args below meth c H locs cells slots mc1 ms1 (F0 m pc ls st) rest (fun _ oc t => ∃ (v : Option Value) (h' : zh_H), oc = .returned v ∧ (fun v h' => v = v0 ∧ h' = h0) v h' ∧ zh_W G h' t.heap) (fun q => zg_B G ≤ q) := by
    rcases hm.2.1 with hlk | hlk
    · exact va_runV (n := k) ⟨C.1.1, C.1.2.1, C.1.2.2.1, C.1.2.2.2.1, C.2.1⟩ hM ⟨callB_of k C.2.1 (zh_good hm.1) rfl rfl rfl (C.2.1 _ hm.2.2.1) (C.2.1 _ hlk) hm.2.2.2.1 ⟨by show d1 + 1 ≤ _; omega, by show 8 + (n1 + 11) + 27 * d1 ≤ _; omega⟩, C.2.1 _ hs.1, C.2.1 _ hs.2⟩ ⟨zh_blind, (by rw [← hcn]; exact zh_recv C.2.2.1 hW he hB hB2 hc), fun U hU hWm => ⟨rfl, C.2.2.1.warm hWm, by rw [hU]; exact hW⟩⟩ rfl hk hl.1 hst (lv_room hcat) hd ⟨by omega, by omega⟩
    · exact va_runVN (n := k) ⟨C.1.1, C.1.2.1, C.1.2.2.1, C.1.2.2.2.1, C.2.1⟩ hM ⟨va_cnB k C.2.1 (zh_good hm.1) rfl rfl rfl (C.2.2.1.2.2.1 _ hlk) (C.2.1 _ hm.2.2.1) hm.2.2.2.1 ⟨by show d1 + 1 ≤ _; omega, by show 8 + (n1 + 11) + 27 * d1 ≤ _; omega⟩, C.2.1 _ hs.1, C.2.1 _ hs.2⟩ ⟨zh_blind, (by rw [← hcn]; exact zh_recv C.2.2.1 hW he hB hB2 hc), fun U hU hWm => ⟨rfl, C.2.2.1.warm hWm, by rw [hU]; exact hW⟩⟩ rfl hk hl.1 hst (lv_room hcat) hd ⟨by omega, by omega⟩
  exact zv_after hrn hL (fun v h' H1 locs1 hq hw hL1 => by obtain ⟨rfl, rfl⟩ := hq; exact kk p e R s m args below meth c Qf C H1 locs1 _ _ ls hw hL1 (by omega) (by omega) hl)
theorem zv_callI {y1 : MethodName} {cc1 : ByteArray} {n1 d1 k mc1 ms1 idx : Nat} {As rest : List Value} {b : Nat} {Q1 : Option Value → zh_H → Prop} (hm : zm y.cls idx y1 cc1 n1 none k) (hs : y1.name = "<init>" ∧ Cond.instanceMethod y1 ∈ zw) (hM : zc G l y1 cc1 n1 none d1 (.ref b :: As) h mc1 ms1 Q1) (hst : st = As.reverse ++ .ref b :: rest) (hk : As.length = k) (hcat : (rest.map fun v => v.category).sum ≤ 8) (hdd : d1 + 1 ≤ d) (hd : decode cc pc = .ok (.invokespecial idx, 3)) (kk : ∀ (v : Option Value) (h' : zh_H), Q1 v h' → zv G l y cc n r d mc ms (pc + 3) lv (v.toList ++ rest) h' Q) : zv G l y cc n r d (mc1 + mc) (ms1 + ms) pc lv st h Q := by
  intro p e R s m args below meth c Qf C H locs cells slots ls hW hL h1 h2 hl
  have hn8 := hm.2.2.2.2
  have hd1 := C.2.2.2.1
  have hrn : va_Run p l e R s m args below meth c H locs cells slots mc1 ms1 (F0 m pc ls st) rest (fun _ oc t => ∃ (v : Option Value) (h' : zh_H), oc = .returned v ∧ Q1 v h' ∧ zh_W G h' t.heap) (fun q => zg_B G ≤ q) := by
    rcases hm.2.1 with hlk | hlk
    · exact va_runI (n := k) ⟨C.1.1, C.1.2.1, C.1.2.2.1, C.1.2.2.2.1, C.2.1⟩ hM ⟨callB_of k C.2.1 (zh_good hm.1) rfl rfl rfl (C.2.1 _ hm.2.2.1) (C.2.1 _ hlk) hm.2.2.2.1 ⟨by show d1 + 1 ≤ _; omega, by show 8 + (n1 + 11) + 27 * d1 ≤ _; omega⟩, hs.1, C.2.1 _ hs.2⟩ ⟨zh_blind, fun U hU hWm => ⟨rfl, C.2.2.1.warm hWm, by rw [hU]; exact hW⟩⟩ rfl hk hl.1 hst (lv_room hcat) hd ⟨by omega, by omega⟩
    · exact va_runIN (n := k) ⟨C.1.1, C.1.2.1, C.1.2.2.1, C.1.2.2.2.1, C.2.1⟩ hM ⟨va_cnB k C.2.1 (zh_good hm.1) rfl rfl rfl (C.2.2.1.2.2.1 _ hlk) (C.2.1 _ hm.2.2.1) hm.2.2.2.1 ⟨by show d1 + 1 ≤ _; omega, by show 8 + (n1 + 11) + 27 * d1 ≤ _; omega⟩, hs.1, C.2.1 _ hs.2⟩ ⟨zh_blind, fun U hU hWm => ⟨rfl, C.2.2.1.warm hWm, by rw [hU]; exact hW⟩⟩ rfl hk hl.1 hst (lv_room hcat) hd ⟨by omega, by omega⟩
  exact zv_after hrn hL (fun v h' H1 locs1 hq hw hL1 => kk v h' hq p e R s m args below meth c Qf C H1 locs1 _ _ ls hw hL1 (by omega) (by omega) hl)
theorem zv_callIq {y1 : MethodName} {cc1 : ByteArray} {n1 d1 k mc1 ms1 idx : Nat} {As rest : List Value} {b : Nat} {v0 : Option Value} {h0 : zh_H} (hm : zm y.cls idx y1 cc1 n1 none k) (hs : y1.name = "<init>" ∧ Cond.instanceMethod y1 ∈ zw) (hM : zc G l y1 cc1 n1 none d1 (.ref b :: As) h mc1 ms1 (fun v h' => v = v0 ∧ h' = h0)) (hst : st = As.reverse ++ .ref b :: rest) (hk : As.length = k) (hcat : (rest.map fun v => v.category).sum ≤ 8) (hdd : d1 + 1 ≤ d) (hd : decode cc pc = .ok (.invokespecial idx, 3)) (kk : zv G l y cc n r d mc ms (pc + 3) lv (v0.toList ++ rest) h0 Q) : zv G l y cc n r d (mc1 + mc) (ms1 + ms) pc lv st h Q := by
  intro p e R s m args below meth c Qf C H locs cells slots ls hW hL h1 h2 hl
  have hn8 := hm.2.2.2.2
  have hd1 := C.2.2.2.1
  have hrn : va_Run p l e R s m args below meth c H locs cells slots mc1 ms1 (F0 m pc ls st) rest (fun _ oc t => ∃ (v : Option Value) (h' : zh_H), oc = .returned v ∧ (fun v h' => v = v0 ∧ h' = h0) v h' ∧ zh_W G h' t.heap) (fun q => zg_B G ≤ q) := by
    rcases hm.2.1 with hlk | hlk
    · exact va_runI (n := k) ⟨C.1.1, C.1.2.1, C.1.2.2.1, C.1.2.2.2.1, C.2.1⟩ hM ⟨callB_of k C.2.1 (zh_good hm.1) rfl rfl rfl (C.2.1 _ hm.2.2.1) (C.2.1 _ hlk) hm.2.2.2.1 ⟨by show d1 + 1 ≤ _; omega, by show 8 + (n1 + 11) + 27 * d1 ≤ _; omega⟩, hs.1, C.2.1 _ hs.2⟩ ⟨zh_blind, fun U hU hWm => ⟨rfl, C.2.2.1.warm hWm, by rw [hU]; exact hW⟩⟩ rfl hk hl.1 hst (lv_room hcat) hd ⟨by omega, by omega⟩
    · exact va_runIN (n := k) ⟨C.1.1, C.1.2.1, C.1.2.2.1, C.1.2.2.2.1, C.2.1⟩ hM ⟨va_cnB k C.2.1 (zh_good hm.1) rfl rfl rfl (C.2.2.1.2.2.1 _ hlk) (C.2.1 _ hm.2.2.1) hm.2.2.2.1 ⟨by show d1 + 1 ≤ _; omega, by show 8 + (n1 + 11) + 27 * d1 ≤ _; omega⟩, hs.1, C.2.1 _ hs.2⟩ ⟨zh_blind, fun U hU hWm => ⟨rfl, C.2.2.1.warm hWm, by rw [hU]; exact hW⟩⟩ rfl hk hl.1 hst (lv_room hcat) hd ⟨by omega, by omega⟩
  exact zv_after hrn hL (fun v h' H1 locs1 hq hw hL1 => by obtain ⟨rfl, rfl⟩ := hq; exact kk p e R s m args below meth c Qf C H1 locs1 _ _ ls hw hL1 (by omega) (by omega) hl)
theorem zv_objInit {idx : Nat} (hm : Cond.methodLink y.cls idx objectInit ∈ zw) (hi : Cond.instanceMethod objectInit ∈ zw) (hco : Cond.code objectInit ⟨#[0xb1]⟩ 1 none ∈ zw) (hcat : (st.map fun v => v.category).sum ≤ 8) (hdd : 1 ≤ d) (hd : decode cc pc = .ok (.invokespecial idx, 3)) (kk : zv G l y cc n r d mc ms (pc + 3) lv st h Q) : zv G l y cc n r d mc ms pc lv (.ref a :: st) h Q := by
  intro p e R s m args below meth c Qf C H locs cells slots ls hW hL h1 h2 hl
  have hd1 := C.2.2.2.1
  have hrm := lv_room (m := m) (pc := pc) (ls := ls) (rest := .ref a :: st) hcat
  exact W.objInit C.1.1 C.1.2.1 C.1.2.2.2.1 (C.2.1 _ hm) (C.2.1 _ hi) (C.2.1 _ hco) rfl (by rw [C.1.2.2.1]; exact hl.1) rfl hd (by omega) (by omega) (kk p e R s m args below meth c Qf C H locs cells slots ls hW hL h1 h2 hl)
end ZH
end
