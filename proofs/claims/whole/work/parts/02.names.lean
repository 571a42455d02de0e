
theorem goodIn_r {big : List Cond} (ws : List Cond) (ps : List Nat) (hp : ws = ps.filterMap (fun i => big[i]?)) (h : ws.all goodWord = true) : GoodIn big ws := by
  intro w hw
  have h1 := List.all_eq_true.mp h w hw
  rw [hp] at hw
  obtain ⟨i, -, hi⟩ := List.mem_filterMap.mp hw
  have hm : w ∈ big := by first | exact List.mem_of_getElem? hi | exact List.getElem?_mem hi
  exact ⟨hm, good_of_word h1⟩
theorem goodIn_app {big a b : List Cond} (ha : GoodIn big a) (hb : GoodIn big b) : GoodIn big (a ++ b) := fun w h => (List.mem_append.mp h).elim (ha w) (hb w)
theorem goodIn_ca {big a b : List Cond} {c : Cond} (ha : GoodIn big (c :: a)) (hb : GoodIn big b) : GoodIn big (c :: (a ++ b)) := fun w h => (List.mem_cons.mp h).elim (fun e => ha w (List.mem_cons.mpr (Or.inl e))) (fun h => (List.mem_append.mp h).elim (fun h => ha w (List.mem_cons.mpr (Or.inr h))) (hb w))
theorem goodIn_sub {big ws : List Cond} (hm : ∀ w ∈ ws, w ∈ big) (h : ws.all goodWord = true) : GoodIn big ws := fun w hw => ⟨hm w hw, good_of_word (List.all_eq_true.mp h w hw)⟩



def RX0 : String := "ProbeRacks$Held"
def TX0 : u_T := fun k => match k with
  | 0 => ("ProbeRacks$Held", "kind", "I", false)
  | 1 => ("ProbeRacks$Held", "amount", "J", false)
  | _ => ("ProbeRacks$Held", "thing", "LProbeRacks$Thing;", false)
def tyX0 : Nat → FieldType := fun k => match k with
  | 0 => .int
  | 1 => .long
  | _ => .object "ProbeRacks$Thing"
abbrev wsX00 : List Cond := u_ws RX0 TX0 3
theorem nmX0 : ∀ a, a < 3 → ∀ b, b < 3 → a ≠ b → (TX0 a).2.1 ≠ (TX0 b).2.1 := by decide +kernel
theorem tyX0_ok : ∀ k, k < 3 → parseFieldDescriptor (TX0 k).2.2.1 = some (tyX0 k) := by decide +kernel
abbrev cX0_init : ByteArray := prog_2_method_1_code
def yX0_init : MethodName := ⟨RX0, "<init>", "()V"⟩
abbrev cX0_holdNumber : ByteArray := prog_2_method_2_code
def yX0_holdNumber : MethodName := ⟨RX0, "holdNumber", "(IJ)V"⟩
abbrev cX0_holdThing : ByteArray := prog_2_method_3_code
def yX0_holdThing : MethodName := ⟨RX0, "holdThing", "(LProbeRacks$Thing;)V"⟩
def RX1 : String := "ProbeRacks$NumberRow"
def TX1 : u_T := fun k => match k with
  | 0 => ("ProbeRacks$Row", "kind", "I", true)
  | 1 => ("ProbeRacks$Row", "places", "I", true)
  | _ => ("ProbeRacks$NumberRow", "numbers", "[J", true)
def tyX1 : Nat → FieldType := fun k => match k with
  | 0 => .int
  | 1 => .int
  | _ => .array .long
abbrev wsX10 : List Cond := u_ws RX1 TX1 3
theorem nmX1 : ∀ a, a < 3 → ∀ b, b < 3 → a ≠ b → (TX1 a).2.1 ≠ (TX1 b).2.1 := by decide +kernel
theorem tyX1_ok : ∀ k, k < 3 → parseFieldDescriptor (TX1 k).2.2.1 = some (tyX1 k) := by decide +kernel
abbrev cX1_init : ByteArray := prog_3_method_1_code
def yX1_init : MethodName := ⟨RX1, "<init>", "(II)V"⟩
def RX2 : String := "ProbeRacks$Probe"
def TX2 : u_T := fun k => match k with
  | 0 => ("ProbeRacks$Probe", "number", "I", true)
  | _ => ("ProbeRacks$Probe", "fine", "Z", true)
def tyX2 : Nat → FieldType := fun k => match k with
  | 0 => .int
  | _ => .boolean
abbrev wsX20 : List Cond := u_ws RX2 TX2 2
theorem nmX2 : ∀ a, a < 2 → ∀ b, b < 2 → a ≠ b → (TX2 a).2.1 ≠ (TX2 b).2.1 := by decide +kernel
theorem tyX2_ok : ∀ k, k < 2 → parseFieldDescriptor (TX2 k).2.2.1 = some (tyX2 k) := by decide +kernel
abbrev cX2_init : ByteArray := prog_4_method_1_code
def yX2_init : MethodName := ⟨RX2, "<init>", "(IZ)V"⟩
def RX3 : String := "ProbeRacks$Row"
def TX3 : u_T := fun k => match k with
  | _ => ("", "", "", false)
def tyX3 : Nat → FieldType := fun k => match k with
  | _ => .int
abbrev wsX30 : List Cond := u_ws RX3 TX3 0
theorem nmX3 : ∀ a, a < 0 → ∀ b, b < 0 → a ≠ b → (TX3 a).2.1 ≠ (TX3 b).2.1 := by decide +kernel
theorem tyX3_ok : ∀ k, k < 0 → parseFieldDescriptor (TX3 k).2.2.1 = some (tyX3 k) := by decide +kernel
abbrev cX3_init : ByteArray := prog_5_method_1_code
def yX3_init : MethodName := ⟨RX3, "<init>", "(II)V"⟩
def RX4 : String := "ProbeRacks$Step"
def TX4 : u_T := fun k => match k with
  | 0 => ("ProbeRacks$Step", "op", "I", false)
  | 1 => ("ProbeRacks$Step", "a", "I", false)
  | 2 => ("ProbeRacks$Step", "i", "I", false)
  | 3 => ("ProbeRacks$Step", "b", "I", false)
  | 4 => ("ProbeRacks$Step", "k", "I", false)
  | _ => ("ProbeRacks$Step", "outcome", "I", false)
def tyX4 : Nat → FieldType := fun k => match k with
  | 0 => .int
  | 1 => .int
  | 2 => .int
  | 3 => .int
  | 4 => .int
  | _ => .int
abbrev wsX40 : List Cond := u_ws RX4 TX4 6
theorem nmX4 : ∀ a, a < 6 → ∀ b, b < 6 → a ≠ b → (TX4 a).2.1 ≠ (TX4 b).2.1 := by decide +kernel
theorem tyX4_ok : ∀ k, k < 6 → parseFieldDescriptor (TX4 k).2.2.1 = some (tyX4 k) := by decide +kernel
abbrev cX4_init : ByteArray := prog_6_method_1_code
def yX4_init : MethodName := ⟨RX4, "<init>", "()V"⟩
abbrev cX4_become : ByteArray := prog_6_method_2_code
def yX4_become : MethodName := ⟨RX4, "become", "(IIIII)V"⟩
def RX5 : String := "ProbeRacks$Thing"
def TX5 : u_T := fun k => match k with
  | _ => ("", "", "", false)
def tyX5 : Nat → FieldType := fun k => match k with
  | _ => .int
abbrev wsX50 : List Cond := u_ws RX5 TX5 0
theorem nmX5 : ∀ a, a < 0 → ∀ b, b < 0 → a ≠ b → (TX5 a).2.1 ≠ (TX5 b).2.1 := by decide +kernel
theorem tyX5_ok : ∀ k, k < 0 → parseFieldDescriptor (TX5 k).2.2.1 = some (tyX5 k) := by decide +kernel
abbrev cX5_init : ByteArray := prog_7_method_1_code
def yX5_init : MethodName := ⟨RX5, "<init>", "()V"⟩
def RX6 : String := "ProbeRacks$ThingRow"
def TX6 : u_T := fun k => match k with
  | 0 => ("ProbeRacks$Row", "kind", "I", true)
  | 1 => ("ProbeRacks$Row", "places", "I", true)
  | _ => ("ProbeRacks$ThingRow", "things", "[LProbeRacks$Thing;", true)
def tyX6 : Nat → FieldType := fun k => match k with
  | 0 => .int
  | 1 => .int
  | _ => .array (.object "ProbeRacks$Thing")
abbrev wsX60 : List Cond := u_ws RX6 TX6 3
theorem nmX6 : ∀ a, a < 3 → ∀ b, b < 3 → a ≠ b → (TX6 a).2.1 ≠ (TX6 b).2.1 := by decide +kernel
theorem tyX6_ok : ∀ k, k < 3 → parseFieldDescriptor (TX6 k).2.2.1 = some (tyX6 k) := by decide +kernel
abbrev cX6_init : ByteArray := prog_8_method_1_code
def yX6_init : MethodName := ⟨RX6, "<init>", "(II)V"⟩
def RX7 : String := "ProbeRacks"
def TX7 : u_T := fun k => match k with
  | 0 => ("ProbeRacks", "racks", "[LProbeRacks$Thing;", true)
  | 1 => ("ProbeRacks", "inGauge", "LProbeRacks$Held;", true)
  | 2 => ("ProbeRacks", "inHand", "LProbeRacks$Held;", true)
  | 3 => ("ProbeRacks", "steps", "[LProbeRacks$Step;", true)
  | 4 => ("ProbeRacks", "faultCounts", "[I", true)
  | 5 => ("ProbeRacks", "stepCount", "I", false)
  | 6 => ("ProbeRacks", "probeCount", "I", false)
  | _ => ("ProbeRacks", "latestFault", "I", false)
def tyX7 : Nat → FieldType := fun k => match k with
  | 0 => .array (.object "ProbeRacks$Thing")
  | 1 => .object "ProbeRacks$Held"
  | 2 => .object "ProbeRacks$Held"
  | 3 => .array (.object "ProbeRacks$Step")
  | 4 => .array .int
  | 5 => .int
  | 6 => .int
  | _ => .int
abbrev wsX70 : List Cond := u_ws RX7 TX7 8
theorem nmX7 : ∀ a, a < 8 → ∀ b, b < 8 → a ≠ b → (TX7 a).2.1 ≠ (TX7 b).2.1 := by decide +kernel
theorem tyX7_ok : ∀ k, k < 8 → parseFieldDescriptor (TX7 k).2.2.1 = some (tyX7 k) := by decide +kernel
abbrev cX7_init : ByteArray := prog_1_method_1_code
def yX7_init : MethodName := ⟨RX7, "<init>", "()V"⟩
abbrev cX7_rack : ByteArray := prog_1_method_2_code
def yX7_rack : MethodName := ⟨RX7, "rack", "(III)I"⟩
abbrev cX7_hang : ByteArray := prog_1_method_3_code
def yX7_hang : MethodName := ⟨RX7, "hang", "(I)I"⟩
abbrev cX7_share : ByteArray := prog_1_method_4_code
def yX7_share : MethodName := ⟨RX7, "share", "(II)I"⟩
abbrev cX7_empty : ByteArray := prog_1_method_5_code
def yX7_empty : MethodName := ⟨RX7, "empty", "(I)I"⟩
abbrev cX7_gauge : ByteArray := prog_1_method_6_code
def yX7_gauge : MethodName := ⟨RX7, "gauge", "(IJ)I"⟩
abbrev cX7_probe : ByteArray := prog_1_method_7_code
def yX7_probe : MethodName := ⟨RX7, "probe", "(Z)I"⟩
abbrev cX7_line : ByteArray := prog_1_method_8_code
def yX7_line : MethodName := ⟨RX7, "line", "(I)I"⟩
abbrev cX7_none : ByteArray := prog_1_method_9_code
def yX7_none : MethodName := ⟨RX7, "none", "()I"⟩
abbrev cX7_get : ByteArray := prog_1_method_10_code
def yX7_get : MethodName := ⟨RX7, "get", "(II)I"⟩
abbrev cX7_set : ByteArray := prog_1_method_11_code
def yX7_set : MethodName := ⟨RX7, "set", "(II)I"⟩
abbrev cX7_read : ByteArray := prog_1_method_12_code
def yX7_read : MethodName := ⟨RX7, "read", "(III)I"⟩
abbrev cX7_write : ByteArray := prog_1_method_13_code
def yX7_write : MethodName := ⟨RX7, "write", "(III)I"⟩
abbrev cX7_size : ByteArray := prog_1_method_14_code
def yX7_size : MethodName := ⟨RX7, "size", "(I)I"⟩
abbrev cX7_within : ByteArray := prog_1_method_15_code
def yX7_within : MethodName := ⟨RX7, "within", "(III)I"⟩
abbrev cX7_into : ByteArray := prog_1_method_16_code
def yX7_into : MethodName := ⟨RX7, "into", "(IIII)I"⟩
abbrev cX7_pass : ByteArray := prog_1_method_17_code
def yX7_pass : MethodName := ⟨RX7, "pass", "(III)I"⟩
abbrev cX7_takes : ByteArray := prog_1_method_18_code
def yX7_takes : MethodName := ⟨RX7, "takes", "(I)I"⟩
abbrev cX7_gives : ByteArray := prog_1_method_19_code
def yX7_gives : MethodName := ⟨RX7, "gives", "(I)I"⟩
abbrev cX7_step : ByteArray := prog_1_method_20_code
def yX7_step : MethodName := ⟨RX7, "step", "(IIIII)I"⟩
abbrev cX7_run : ByteArray := prog_1_method_21_code
def yX7_run : MethodName := ⟨RX7, "run", "(Z)I"⟩
abbrev cX7_met : ByteArray := prog_1_method_22_code
def yX7_met : MethodName := ⟨RX7, "met", "(I)I"⟩
abbrev cX7_clear : ByteArray := prog_1_method_23_code
def yX7_clear : MethodName := ⟨RX7, "clear", "()I"⟩
abbrev cX7_fault : ByteArray := prog_1_method_24_code
def yX7_fault : MethodName := ⟨RX7, "fault", "()I"⟩
abbrev cX7_faults : ByteArray := prog_1_method_25_code
def yX7_faults : MethodName := ⟨RX7, "faults", "(I)I"⟩
abbrev cX7_has : ByteArray := prog_1_method_26_code
def yX7_has : MethodName := ⟨RX7, "has", "()I"⟩
abbrev cX7_value : ByteArray := prog_1_method_27_code
def yX7_value : MethodName := ⟨RX7, "value", "()J"⟩
abbrev cX7_told : ByteArray := prog_1_method_28_code
def yX7_told : MethodName := ⟨RX7, "told", "(I)I"⟩
abbrev cX7_same : ByteArray := prog_1_method_29_code
def yX7_same : MethodName := ⟨RX7, "same", "(I)I"⟩
abbrev cX7_isRack : ByteArray := prog_1_method_30_code
def yX7_isRack : MethodName := ⟨RX7, "isRack", "(I)Z"⟩
abbrev cX7_isNumberKind : ByteArray := prog_1_method_31_code
def yX7_isNumberKind : MethodName := ⟨RX7, "isNumberKind", "(I)Z"⟩
abbrev cX7_goesInto : ByteArray := prog_1_method_32_code
def yX7_goesInto : MethodName := ⟨RX7, "goesInto", "(II)Z"⟩
abbrev cX7_asKind : ByteArray := prog_1_method_33_code
def yX7_asKind : MethodName := ⟨RX7, "asKind", "(IJ)J"⟩
abbrev cX7_answer : ByteArray := prog_1_method_34_code
def yX7_answer : MethodName := ⟨RX7, "answer", "(II)I"⟩
abbrev cX7_countFault : ByteArray := prog_1_method_35_code
def yX7_countFault : MethodName := ⟨RX7, "countFault", "(I)V"⟩
abbrev cX7_rowFault : ByteArray := prog_1_method_36_code
def yX7_rowFault : MethodName := ⟨RX7, "rowFault", "(LProbeRacks$Thing;)I"⟩
abbrev cX7_placeFault : ByteArray := prog_1_method_37_code
def yX7_placeFault : MethodName := ⟨RX7, "placeFault", "(LProbeRacks$Thing;I)I"⟩
abbrev cX7_placesOf : ByteArray := prog_1_method_38_code
def yX7_placesOf : MethodName := ⟨RX7, "placesOf", "(LProbeRacks$Thing;)I"⟩
abbrev cX7_getPlace : ByteArray := prog_1_method_39_code
def yX7_getPlace : MethodName := ⟨RX7, "getPlace", "(LProbeRacks$Thing;ILProbeRacks$Held;)I"⟩
abbrev cX7_setPlace : ByteArray := prog_1_method_40_code
def yX7_setPlace : MethodName := ⟨RX7, "setPlace", "(LProbeRacks$Thing;ILProbeRacks$Held;)I"⟩
abbrev cX7_setNumber : ByteArray := prog_1_method_41_code
def yX7_setNumber : MethodName := ⟨RX7, "setNumber", "(LProbeRacks$NumberRow;ILProbeRacks$Held;)I"⟩
abbrev cX7_setThing : ByteArray := prog_1_method_42_code
def yX7_setThing : MethodName := ⟨RX7, "setThing", "(LProbeRacks$ThingRow;ILProbeRacks$Held;)I"⟩
abbrev cX7_readPlace : ByteArray := prog_1_method_43_code
def yX7_readPlace : MethodName := ⟨RX7, "readPlace", "(LProbeRacks$Thing;IILProbeRacks$Held;)I"⟩
abbrev cX7_writePlace : ByteArray := prog_1_method_44_code
def yX7_writePlace : MethodName := ⟨RX7, "writePlace", "(LProbeRacks$Thing;IIJ)I"⟩
abbrev cX7_readWithin : ByteArray := prog_1_method_45_code
def yX7_readWithin : MethodName := ⟨RX7, "readWithin", "(LProbeRacks$Thing;II)I"⟩
abbrev cX7_writeWithin : ByteArray := prog_1_method_46_code
def yX7_writeWithin : MethodName := ⟨RX7, "writeWithin", "(LProbeRacks$Thing;III)I"⟩
abbrev cX7_takeInner : ByteArray := prog_1_method_47_code
def yX7_takeInner : MethodName := ⟨RX7, "takeInner", "(LProbeRacks$Thing;I)I"⟩
abbrev cX7_passPlace : ByteArray := prog_1_method_48_code
def yX7_passPlace : MethodName := ⟨RX7, "passPlace", "(LProbeRacks$Thing;LProbeRacks$Thing;II)I"⟩
abbrev cX7_movePlace : ByteArray := prog_1_method_49_code
def yX7_movePlace : MethodName := ⟨RX7, "movePlace", "(LProbeRacks$Thing;ILProbeRacks$Thing;I)I"⟩
abbrev cX7_kindsTaken : ByteArray := prog_1_method_50_code
def yX7_kindsTaken : MethodName := ⟨RX7, "kindsTaken", "(LProbeRacks$Thing;)I"⟩
abbrev cX7_kindsGiven : ByteArray := prog_1_method_51_code
def yX7_kindsGiven : MethodName := ⟨RX7, "kindsGiven", "(LProbeRacks$Thing;)I"⟩
abbrev cX7_forgetRun : ByteArray := prog_1_method_52_code
def yX7_forgetRun : MethodName := ⟨RX7, "forgetRun", "()V"⟩
abbrev cX7_doStep : ByteArray := prog_1_method_53_code
def yX7_doStep : MethodName := ⟨RX7, "doStep", "(LProbeRacks$Step;)I"⟩
def RX8 : String := "ProbeRacksModel"
def TX8 : u_T := fun k => match k with
  | 0 => ("ProbeRacksModel", "thing", "[I", true)
  | 1 => ("ProbeRacksModel", "which", "[I", true)
  | 2 => ("ProbeRacksModel", "has", "I", false)
  | 3 => ("ProbeRacksModel", "hasKind", "I", false)
  | 4 => ("ProbeRacksModel", "hasValue", "J", false)
  | 5 => ("ProbeRacksModel", "hasWhich", "I", false)
  | 6 => ("ProbeRacksModel", "probes", "I", false)
  | 7 => ("ProbeRacksModel", "isFine", "[Z", true)
  | 8 => ("ProbeRacksModel", "rows", "I", false)
  | 9 => ("ProbeRacksModel", "kindOf", "[I", true)
  | 10 => ("ProbeRacksModel", "sizeOf", "[I", true)
  | 11 => ("ProbeRacksModel", "place", "[J", true)
  | 12 => ("ProbeRacksModel", "steps", "I", false)
  | 13 => ("ProbeRacksModel", "stepOf", "[I", true)
  | 14 => ("ProbeRacksModel", "done", "I", false)
  | 15 => ("ProbeRacksModel", "doneFault", "[I", true)
  | 16 => ("ProbeRacksModel", "fault", "I", false)
  | 17 => ("ProbeRacksModel", "faults", "[I", true)
  | 18 => ("ProbeRacksModel", "foundThing", "I", false)
  | _ => ("ProbeRacksModel", "foundWhich", "I", false)
def tyX8 : Nat → FieldType := fun k => match k with
  | 0 => .array .int
  | 1 => .array .int
  | 2 => .int
  | 3 => .int
  | 4 => .long
  | 5 => .int
  | 6 => .int
  | 7 => .array .boolean
  | 8 => .int
  | 9 => .array .int
  | 10 => .array .int
  | 11 => .array .long
  | 12 => .int
  | 13 => .array .int
  | 14 => .int
  | 15 => .array .int
  | 16 => .int
  | 17 => .array .int
  | 18 => .int
  | _ => .int
abbrev wsX80 : List Cond := u_ws RX8 TX8 20
theorem nmX8 : ∀ a, a < 20 → ∀ b, b < 20 → a ≠ b → (TX8 a).2.1 ≠ (TX8 b).2.1 := by decide +kernel
theorem tyX8_ok : ∀ k, k < 20 → parseFieldDescriptor (TX8 k).2.2.1 = some (tyX8 k) := by decide +kernel
abbrev cX8_init : ByteArray := prog_10_method_1_code
def yX8_init : MethodName := ⟨RX8, "<init>", "()V"⟩
abbrev cX8_beyond : ByteArray := prog_10_method_2_code
def yX8_beyond : MethodName := ⟨RX8, "beyond", "(JJJ)Z"⟩
abbrev cX8_no : ByteArray := prog_10_method_3_code
def yX8_no : MethodName := ⟨RX8, "no", "(I)Z"⟩
abbrev cX8_goes : ByteArray := prog_10_method_4_code
def yX8_goes : MethodName := ⟨RX8, "goes", "(II)Z"⟩
abbrev cX8_as : ByteArray := prog_10_method_5_code
def yX8_as : MethodName := ⟨RX8, "as", "(IJ)J"⟩
abbrev cX8_met1 : ByteArray := prog_10_method_6_code
def yX8_met1 : MethodName := ⟨RX8, "met1", "(I)I"⟩
abbrev cX8_answer : ByteArray := prog_10_method_7_code
def yX8_answer : MethodName := ⟨RX8, "answer", "(II)I"⟩
abbrev cX8_newRow : ByteArray := prog_10_method_8_code
def yX8_newRow : MethodName := ⟨RX8, "newRow", "(II)I"⟩
abbrev cX8_rack : ByteArray := prog_10_method_9_code
def yX8_rack : MethodName := ⟨RX8, "rack", "(III)I"⟩
abbrev cX8_hang : ByteArray := prog_10_method_10_code
def yX8_hang : MethodName := ⟨RX8, "hang", "(I)I"⟩
abbrev cX8_share : ByteArray := prog_10_method_11_code
def yX8_share : MethodName := ⟨RX8, "share", "(II)I"⟩
abbrev cX8_empty : ByteArray := prog_10_method_12_code
def yX8_empty : MethodName := ⟨RX8, "empty", "(I)I"⟩
abbrev cX8_hold : ByteArray := prog_10_method_13_code
def yX8_hold : MethodName := ⟨RX8, "hold", "(IJ)V"⟩
abbrev cX8_gauge : ByteArray := prog_10_method_14_code
def yX8_gauge : MethodName := ⟨RX8, "gauge", "(IJ)I"⟩
abbrev cX8_probe : ByteArray := prog_10_method_15_code
def yX8_probe : MethodName := ⟨RX8, "probe", "(Z)I"⟩
abbrev cX8_line : ByteArray := prog_10_method_16_code
def yX8_line : MethodName := ⟨RX8, "line", "(I)I"⟩
abbrev cX8_none : ByteArray := prog_10_method_17_code
def yX8_none : MethodName := ⟨RX8, "none", "()I"⟩
abbrev cX8_getFault : ByteArray := prog_10_method_18_code
def yX8_getFault : MethodName := ⟨RX8, "getFault", "(III)I"⟩
abbrev cX8_isNumbers : ByteArray := prog_10_method_19_code
def yX8_isNumbers : MethodName := ⟨RX8, "isNumbers", "(I)Z"⟩
abbrev cX8_readFault : ByteArray := prog_10_method_20_code
def yX8_readFault : MethodName := ⟨RX8, "readFault", "(IIII)I"⟩
abbrev cX8_writeFault : ByteArray := prog_10_method_21_code
def yX8_writeFault : MethodName := ⟨RX8, "writeFault", "(IIII)I"⟩
abbrev cX8_unfit : ByteArray := prog_10_method_22_code
def yX8_unfit : MethodName := ⟨RX8, "unfit", "(I)Z"⟩
abbrev cX8_setFault : ByteArray := prog_10_method_23_code
def yX8_setFault : MethodName := ⟨RX8, "setFault", "(II)I"⟩
abbrev cX8_gets : ByteArray := prog_10_method_24_code
def yX8_gets : MethodName := ⟨RX8, "gets", "(II)V"⟩
abbrev cX8_doGet : ByteArray := prog_10_method_25_code
def yX8_doGet : MethodName := ⟨RX8, "doGet", "(II)I"⟩
abbrev cX8_get : ByteArray := prog_10_method_26_code
def yX8_get : MethodName := ⟨RX8, "get", "(II)I"⟩
abbrev cX8_doSet : ByteArray := prog_10_method_27_code
def yX8_doSet : MethodName := ⟨RX8, "doSet", "(II)I"⟩
abbrev cX8_set : ByteArray := prog_10_method_28_code
def yX8_set : MethodName := ⟨RX8, "set", "(II)I"⟩
abbrev cX8_doRead : ByteArray := prog_10_method_29_code
def yX8_doRead : MethodName := ⟨RX8, "doRead", "(IIII)I"⟩
abbrev cX8_read : ByteArray := prog_10_method_30_code
def yX8_read : MethodName := ⟨RX8, "read", "(III)I"⟩
abbrev cX8_doWrite : ByteArray := prog_10_method_31_code
def yX8_doWrite : MethodName := ⟨RX8, "doWrite", "(IIIIJ)I"⟩
abbrev cX8_write : ByteArray := prog_10_method_32_code
def yX8_write : MethodName := ⟨RX8, "write", "(III)I"⟩
abbrev cX8_sizeFault : ByteArray := prog_10_method_33_code
def yX8_sizeFault : MethodName := ⟨RX8, "sizeFault", "(I)I"⟩
abbrev cX8_size : ByteArray := prog_10_method_34_code
def yX8_size : MethodName := ⟨RX8, "size", "(I)I"⟩
abbrev cX8_finds : ByteArray := prog_10_method_35_code
def yX8_finds : MethodName := ⟨RX8, "finds", "(II)I"⟩
abbrev cX8_doWithin : ByteArray := prog_10_method_36_code
def yX8_doWithin : MethodName := ⟨RX8, "doWithin", "(III)I"⟩
abbrev cX8_within : ByteArray := prog_10_method_37_code
def yX8_within : MethodName := ⟨RX8, "within", "(III)I"⟩
abbrev cX8_into : ByteArray := prog_10_method_38_code
def yX8_into : MethodName := ⟨RX8, "into", "(IIII)I"⟩
abbrev cX8_pass : ByteArray := prog_10_method_39_code
def yX8_pass : MethodName := ⟨RX8, "pass", "(III)I"⟩
abbrev cX8_firstFault : ByteArray := prog_10_method_40_code
def yX8_firstFault : MethodName := ⟨RX8, "firstFault", "(I)I"⟩
abbrev cX8_kinds : ByteArray := prog_10_method_41_code
def yX8_kinds : MethodName := ⟨RX8, "kinds", "(IZ)I"⟩
abbrev cX8_takes : ByteArray := prog_10_method_42_code
def yX8_takes : MethodName := ⟨RX8, "takes", "(I)I"⟩
abbrev cX8_gives : ByteArray := prog_10_method_43_code
def yX8_gives : MethodName := ⟨RX8, "gives", "(I)I"⟩
abbrev cX8_step : ByteArray := prog_10_method_44_code
def yX8_step : MethodName := ⟨RX8, "step", "(IIIII)I"⟩
abbrev cX8_does : ByteArray := prog_10_method_45_code
def yX8_does : MethodName := ⟨RX8, "does", "(I)I"⟩
abbrev cX8_moves : ByteArray := prog_10_method_46_code
def yX8_moves : MethodName := ⟨RX8, "moves", "(IIII)I"⟩
abbrev cX8_run : ByteArray := prog_10_method_47_code
def yX8_run : MethodName := ⟨RX8, "run", "(Z)I"⟩
abbrev cX8_met : ByteArray := prog_10_method_48_code
def yX8_met : MethodName := ⟨RX8, "met", "(I)I"⟩
abbrev cX8_clear : ByteArray := prog_10_method_49_code
def yX8_clear : MethodName := ⟨RX8, "clear", "()I"⟩
abbrev cX8_fault : ByteArray := prog_10_method_50_code
def yX8_fault : MethodName := ⟨RX8, "fault", "()I"⟩
abbrev cX8_faults : ByteArray := prog_10_method_51_code
def yX8_faults : MethodName := ⟨RX8, "faults", "(I)I"⟩
abbrev cX8_has : ByteArray := prog_10_method_52_code
def yX8_has : MethodName := ⟨RX8, "has", "()I"⟩
abbrev cX8_value : ByteArray := prog_10_method_53_code
def yX8_value : MethodName := ⟨RX8, "value", "()J"⟩
abbrev cX8_told : ByteArray := prog_10_method_54_code
def yX8_told : MethodName := ⟨RX8, "told", "(I)I"⟩
abbrev cX8_same : ByteArray := prog_10_method_55_code
def yX8_same : MethodName := ⟨RX8, "same", "(I)I"⟩
def RL : String := "ProbeRacksLaw"
abbrev cL_law : ByteArray := code
def yL_law : MethodName := ⟨RL, "law", "([I)Z"⟩
abbrev vwCl : List vw_C := [(RX0, TX0, 3), (RX1, TX1, 3), (RX2, TX2, 2), (RX4, TX4, 6), (RX6, TX6, 3), (RX7, TX7, 8), (RX8, TX8, 20)]
/-! THE CLAIM OUT OF ONE WALK OF THE LAW'S BODY. Your part is whole_start (and what it stands on); all else here is the same for every law, but numbers. -/
def R_law : String := "ProbeRacksLaw"
def lw_P (b : Addr) (xs : List Int32) (args : Array Value) (s : State) : Prop := args = #[.ref b] ∧ s.IntsAt b xs ∧ xs.length ≤ 3072 ∧ (Jvm.Cond.and given_1 narrow_1).before args s = true
def lw_Q (_ : Array Value) (s : State) (o : Outcome) (t : State) : Prop := o = .returned (some (.int 1)) ∧ Framed s o t [] 600000 7302250
def lw_Z (below : List Frame) (a : Array Value) (s : State) : State → Prop := fun t => ∃ o, t.status = .running ∧ Ended t below o ∧ lw_Q a s o t
/-- the law's own end, with 1 on the stack, nothing written that was there before, its room as the claim has it -/
theorem lw_ret {p : Program} {l : Launch} {e : Env} {s : State} {m : MethodId} {below : List Frame} {meth : Method} {c : Code} {b : Nat} (hx : p.tables.exec = Jvm.exec) (hb : c.code = code) (hr : meth.sig.returnType = ret) (hlocks : meth.locks = false) {pc : Nat} {H : Heap} {ls : Array Slot} (hdg : decode code pc = .ok (.ireturn, 1)) : W p l e room_1 s m #[Value.ref b] below meth c H [] 600000 7302250 (lw_Z below #[Value.ref b] s) (F0 m pc ls [.int 1]) := by
  intro T hT X
  obtain ⟨fs, hret, hrun, hended, hW, hframe⟩ := X.leave (v := some (.int 1)) (hlocks := hlocks) (fun h => by rw [hr] at h; cases h)
  have hmeth' : T.vm.method? m = some meth := X.method'
  refine ⟨T.setFrames fs, ?_, .returned (some (.int 1)), hrun, hended, rfl, ⟨_, rfl⟩, hW, hframe⟩
  jvm_step X.here [X.here.top, hx, hb, hdg, hmeth', hr, ret, narrow_b1]
  (try refine ⟨rfl, ?_⟩); (try refine ⟨rfl, ?_⟩)
  first | (intro acts; rw [hret _ acts rfl rfl rfl]) | rw [hret _ _ rfl rfl rfl]
  exact Steps.refl _
/-- what holds at the law's entry: the machine, the code, the tables' words (any of lw_tbl by 'hts w (by decide +kernel)'), the script of L ints xs at the cell b, what the Statement gives of the start (any of its parts by flat_of_before) -/
def lw_At (p : Program) (s : State) (m : MethodId) (meth : Method) (c : Code) (b L : Nat) (xs : Nat → Int32) : Prop :=
  p.tables.exec = Jvm.exec ∧ c.code = code ∧ meth.sig.returnType = ret ∧ c.maxLocals = 4 ∧ s.vm.findClass R_law = some m.cls ∧ (∀ w ∈ lw_tbl, w.before #[Value.ref b] s = true) ∧ va_X b L xs s s.heap ∧ b < s.heap.size ∧ meth.locks = false ∧ (Jvm.Cond.and given_1 narrow_1).before #[Value.ref b] s = true
