section
-- ===== PART A: goes FIRST, ahead of the names: the tables' words, and 'selects' of the private methods out of them =====
/-- a private method of a class that the tables say can be made, by its rows of tables_1 -/
def lw_okq (q : MethodName × Nat) : Prop := (q.1.cls ≠ "java/lang/invoke/MethodHandle" ∧ q.1.cls ≠ "java/lang/invoke/VarHandle") ∧ Cond.instantiable q.1.cls q.2 ∈ tables_1 ∧ Cond.privateMethod q.1 ∈ tables_1 ∧ Cond.instanceMethod q.1 ∈ tables_1
theorem lw_p0 : lw_okq (⟨"GutterGardens$Text", "appendByte", "(I)V"⟩, 2) := ⟨⟨by decide +kernel, by decide +kernel⟩, List.mem_of_getElem? (i := 22) (by decide +kernel), List.mem_of_getElem? (i := 254) (by decide +kernel), List.mem_of_getElem? (i := 255) (by decide +kernel)⟩
theorem lw_p1 : lw_okq (⟨"GutterGardens$Reader", "takes", "(II)Z"⟩, 5) := ⟨⟨by decide +kernel, by decide +kernel⟩, List.mem_of_getElem? (i := 36) (by decide +kernel), List.mem_of_getElem? (i := 287) (by decide +kernel), List.mem_of_getElem? (i := 288) (by decide +kernel)⟩
theorem lw_p2 : lw_okq (⟨"GutterGardens$Reader", "takesInRoof", "(I)Z"⟩, 5) := ⟨⟨by decide +kernel, by decide +kernel⟩, List.mem_of_getElem? (i := 36) (by decide +kernel), List.mem_of_getElem? (i := 291) (by decide +kernel), List.mem_of_getElem? (i := 292) (by decide +kernel)⟩
theorem lw_p3 : lw_okq (⟨"GutterGardens$Reader", "takesInWater", "(I)Z"⟩, 5) := ⟨⟨by decide +kernel, by decide +kernel⟩, List.mem_of_getElem? (i := 36) (by decide +kernel), List.mem_of_getElem? (i := 302) (by decide +kernel), List.mem_of_getElem? (i := 303) (by decide +kernel)⟩
theorem lw_p4 : lw_okq (⟨"GutterGardens$Reader", "opensPart", "(I)Z"⟩, 5) := ⟨⟨by decide +kernel, by decide +kernel⟩, List.mem_of_getElem? (i := 36) (by decide +kernel), List.mem_of_getElem? (i := 318) (by decide +kernel), List.mem_of_getElem? (i := 319) (by decide +kernel)⟩
theorem lw_p5 : lw_okq (⟨"GutterGardens$Waters", "goingFrom", "(ILGutterGardens$Roofs;Z)I"⟩, 8) := ⟨⟨by decide +kernel, by decide +kernel⟩, List.mem_of_getElem? (i := 85) (by decide +kernel), List.mem_of_getElem? (i := 472) (by decide +kernel), List.mem_of_getElem? (i := 473) (by decide +kernel)⟩
theorem lw_p6 : lw_okq (⟨"GutterGardens", "planRefusal", "(II)I"⟩, 9) := ⟨⟨by decide +kernel, by decide +kernel⟩, List.mem_of_getElem? (i := 14) (by decide +kernel), List.mem_of_getElem? (i := 569) (by decide +kernel), List.mem_of_getElem? (i := 570) (by decide +kernel)⟩
theorem lw_p7 : lw_okq (⟨"GutterGardens$Outlook", "step", "(III)V"⟩, 6) := ⟨⟨by decide +kernel, by decide +kernel⟩, List.mem_of_getElem? (i := 155) (by decide +kernel), List.mem_of_getElem? (i := 586) (by decide +kernel), List.mem_of_getElem? (i := 587) (by decide +kernel)⟩
theorem lw_p8 : lw_okq (⟨"GutterGardens$Gauges", "fitsAll", "(LGutterGardens$Outlook;I)Z"⟩, 7) := ⟨⟨by decide +kernel, by decide +kernel⟩, List.mem_of_getElem? (i := 184) (by decide +kernel), List.mem_of_getElem? (i := 645) (by decide +kernel), List.mem_of_getElem? (i := 646) (by decide +kernel)⟩
theorem lw_p9 : lw_okq (⟨"GutterGardensModel", "readText", "()I"⟩, 26) := ⟨⟨by decide +kernel, by decide +kernel⟩, List.mem_of_getElem? (i := 733) (by decide +kernel), List.mem_of_getElem? (i := 835) (by decide +kernel), List.mem_of_getElem? (i := 836) (by decide +kernel)⟩
theorem lw_p10 : lw_okq (⟨"GutterGardensModel", "figure", "(I)I"⟩, 26) := ⟨⟨by decide +kernel, by decide +kernel⟩, List.mem_of_getElem? (i := 733) (by decide +kernel), List.mem_of_getElem? (i := 839) (by decide +kernel), List.mem_of_getElem? (i := 840) (by decide +kernel)⟩
theorem lw_p11 : lw_okq (⟨"GutterGardensModel", "dry", "()I"⟩, 26) := ⟨⟨by decide +kernel, by decide +kernel⟩, List.mem_of_getElem? (i := 733) (by decide +kernel), List.mem_of_getElem? (i := 844) (by decide +kernel), List.mem_of_getElem? (i := 845) (by decide +kernel)⟩
theorem lw_p12 : lw_okq (⟨"GutterGardensModel", "isRoof", "(I)Z"⟩, 26) := ⟨⟨by decide +kernel, by decide +kernel⟩, List.mem_of_getElem? (i := 733) (by decide +kernel), List.mem_of_getElem? (i := 856) (by decide +kernel), List.mem_of_getElem? (i := 857) (by decide +kernel)⟩
theorem lw_p13 : lw_okq (⟨"GutterGardensModel", "hasEnough", "(II)Z"⟩, 26) := ⟨⟨by decide +kernel, by decide +kernel⟩, List.mem_of_getElem? (i := 733) (by decide +kernel), List.mem_of_getElem? (i := 861) (by decide +kernel), List.mem_of_getElem? (i := 862) (by decide +kernel)⟩
theorem lw_p14 : lw_okq (⟨"GutterGardensModel", "keepAct", "()V"⟩, 26) := ⟨⟨by decide +kernel, by decide +kernel⟩, List.mem_of_getElem? (i := 733) (by decide +kernel), List.mem_of_getElem? (i := 874) (by decide +kernel), List.mem_of_getElem? (i := 875) (by decide +kernel)⟩
theorem lw_p15 : lw_okq (⟨"GutterGardensModel", "pass", "(III)I"⟩, 26) := ⟨⟨by decide +kernel, by decide +kernel⟩, List.mem_of_getElem? (i := 733) (by decide +kernel), List.mem_of_getElem? (i := 878) (by decide +kernel), List.mem_of_getElem? (i := 879) (by decide +kernel)⟩
def lw_privs_1 : List (MethodName × Nat) := [(⟨"GutterGardens$Text", "appendByte", "(I)V"⟩, 2), (⟨"GutterGardens$Reader", "takes", "(II)Z"⟩, 5), (⟨"GutterGardens$Reader", "takesInRoof", "(I)Z"⟩, 5), (⟨"GutterGardens$Reader", "takesInWater", "(I)Z"⟩, 5), (⟨"GutterGardens$Reader", "opensPart", "(I)Z"⟩, 5), (⟨"GutterGardens$Waters", "goingFrom", "(ILGutterGardens$Roofs;Z)I"⟩, 8), (⟨"GutterGardens", "planRefusal", "(II)I"⟩, 9), (⟨"GutterGardens$Outlook", "step", "(III)V"⟩, 6), (⟨"GutterGardens$Gauges", "fitsAll", "(LGutterGardens$Outlook;I)Z"⟩, 7), (⟨"GutterGardensModel", "readText", "()I"⟩, 26), (⟨"GutterGardensModel", "figure", "(I)I"⟩, 26), (⟨"GutterGardensModel", "dry", "()I"⟩, 26), (⟨"GutterGardensModel", "isRoof", "(I)Z"⟩, 26), (⟨"GutterGardensModel", "hasEnough", "(II)Z"⟩, 26), (⟨"GutterGardensModel", "keepAct", "()V"⟩, 26), (⟨"GutterGardensModel", "pass", "(III)I"⟩, 26)]
theorem lw_r1 : ∀ q ∈ lw_privs_1, lw_okq q := List.forall_mem_cons.mpr ⟨lw_p0, List.forall_mem_cons.mpr ⟨lw_p1, List.forall_mem_cons.mpr ⟨lw_p2, List.forall_mem_cons.mpr ⟨lw_p3, List.forall_mem_cons.mpr ⟨lw_p4, List.forall_mem_cons.mpr ⟨lw_p5, List.forall_mem_cons.mpr ⟨lw_p6, List.forall_mem_cons.mpr ⟨lw_p7, List.forall_mem_cons.mpr ⟨lw_p8, List.forall_mem_cons.mpr ⟨lw_p9, List.forall_mem_cons.mpr ⟨lw_p10, List.forall_mem_cons.mpr ⟨lw_p11, List.forall_mem_cons.mpr ⟨lw_p12, List.forall_mem_cons.mpr ⟨lw_p13, List.forall_mem_cons.mpr ⟨lw_p14, List.forall_mem_cons.mpr ⟨lw_p15, fun _ h => absurd h List.not_mem_nil⟩⟩⟩⟩⟩⟩⟩⟩⟩⟩⟩⟩⟩⟩⟩⟩
theorem lw_p16 : lw_okq (⟨"GutterGardensModel", "goOn", "(III)V"⟩, 26) := ⟨⟨by decide +kernel, by decide +kernel⟩, List.mem_of_getElem? (i := 733) (by decide +kernel), List.mem_of_getElem? (i := 902) (by decide +kernel), List.mem_of_getElem? (i := 903) (by decide +kernel)⟩
theorem lw_p17 : lw_okq (⟨"GutterGardensModel", "copy", "()V"⟩, 26) := ⟨⟨by decide +kernel, by decide +kernel⟩, List.mem_of_getElem? (i := 733) (by decide +kernel), List.mem_of_getElem? (i := 906) (by decide +kernel), List.mem_of_getElem? (i := 907) (by decide +kernel)⟩
theorem lw_p18 : lw_okq (⟨"GutterGardensModel", "layDams", "(II)I"⟩, 26) := ⟨⟨by decide +kernel, by decide +kernel⟩, List.mem_of_getElem? (i := 733) (by decide +kernel), List.mem_of_getElem? (i := 918) (by decide +kernel), List.mem_of_getElem? (i := 919) (by decide +kernel)⟩
theorem lw_p19 : lw_okq (⟨"GutterGardensModel", "served", "()I"⟩, 26) := ⟨⟨by decide +kernel, by decide +kernel⟩, List.mem_of_getElem? (i := 733) (by decide +kernel), List.mem_of_getElem? (i := 922) (by decide +kernel), List.mem_of_getElem? (i := 923) (by decide +kernel)⟩
theorem lw_p20 : lw_okq (⟨"GutterGardensModel", "layPlan", "(II)I"⟩, 26) := ⟨⟨by decide +kernel, by decide +kernel⟩, List.mem_of_getElem? (i := 733) (by decide +kernel), List.mem_of_getElem? (i := 937) (by decide +kernel), List.mem_of_getElem? (i := 938) (by decide +kernel)⟩
theorem lw_p21 : lw_okq (⟨"GutterGardensModel", "doesFit", "(I)Z"⟩, 26) := ⟨⟨by decide +kernel, by decide +kernel⟩, List.mem_of_getElem? (i := 733) (by decide +kernel), List.mem_of_getElem? (i := 962) (by decide +kernel), List.mem_of_getElem? (i := 963) (by decide +kernel)⟩
def lw_privs_2 : List (MethodName × Nat) := [(⟨"GutterGardensModel", "goOn", "(III)V"⟩, 26), (⟨"GutterGardensModel", "copy", "()V"⟩, 26), (⟨"GutterGardensModel", "layDams", "(II)I"⟩, 26), (⟨"GutterGardensModel", "served", "()I"⟩, 26), (⟨"GutterGardensModel", "layPlan", "(II)I"⟩, 26), (⟨"GutterGardensModel", "doesFit", "(I)Z"⟩, 26)]
theorem lw_r2 : ∀ q ∈ lw_privs_2, lw_okq q := List.forall_mem_cons.mpr ⟨lw_p16, List.forall_mem_cons.mpr ⟨lw_p17, List.forall_mem_cons.mpr ⟨lw_p18, List.forall_mem_cons.mpr ⟨lw_p19, List.forall_mem_cons.mpr ⟨lw_p20, List.forall_mem_cons.mpr ⟨lw_p21, fun _ h => absurd h List.not_mem_nil⟩⟩⟩⟩⟩⟩
def lw_privs : List (MethodName × Nat) := lw_privs_1 ++ (lw_privs_2)
def lw_tbl : List Cond := k2_sels lw_privs ++ tables_1
theorem lw_privs_ok : ∀ q ∈ lw_privs, lw_okq q := by
  show ∀ q ∈ lw_privs_1 ++ (lw_privs_2), lw_okq q
  exact List.forall_mem_append.mpr ⟨lw_r1, lw_r2⟩

def RX0 : String := "GutterGardens$Acts"
def TX0 : u_T := fun k => match k with
  | 0 => ("GutterGardens$Acts", "ring", "LGutterGardens$Shelf;", true)
  | 1 => ("GutterGardens$Acts", "next", "I", false)
  | _ => ("GutterGardens$Acts", "number", "I", false)
def tyX0 : Nat → FieldType := fun k => match k with
  | 0 => .object "GutterGardens$Shelf"
  | 1 => .int
  | _ => .int
abbrev wsX00 : List Cond := u_ws RX0 TX0 3
theorem nmX0 : ∀ a, a < 3 → ∀ b, b < 3 → a ≠ b → (TX0 a).2.1 ≠ (TX0 b).2.1 := by decide +kernel
theorem tyX0_ok : ∀ k, k < 3 → parseFieldDescriptor (TX0 k).2.2.1 = some (tyX0 k) := by decide +kernel
def RX1 : String := "GutterGardens$Gauges"
def TX1 : u_T := fun k => match k with
  | 0 => ("GutterGardens$Gauges", "quarters", "[I", true)
  | 1 => ("GutterGardens$Gauges", "rain", "[I", true)
  | 2 => ("GutterGardens$Gauges", "more", "[I", true)
  | 3 => ("GutterGardens$Gauges", "number", "I", false)
  | 4 => ("GutterGardens$Gauges", "fitting", "I", false)
  | 5 => ("GutterGardens$Gauges", "inAll", "I", false)
  | _ => ("GutterGardens$Gauges", "inSome", "I", false)
def tyX1 : Nat → FieldType := fun k => match k with
  | 0 => .array .int
  | 1 => .array .int
  | 2 => .array .int
  | 3 => .int
  | 4 => .int
  | 5 => .int
  | _ => .int
abbrev wsX10 : List Cond := u_ws RX1 TX1 7
theorem nmX1 : ∀ a, a < 7 → ∀ b, b < 7 → a ≠ b → (TX1 a).2.1 ≠ (TX1 b).2.1 := by decide +kernel
theorem tyX1_ok : ∀ k, k < 7 → parseFieldDescriptor (TX1 k).2.2.1 = some (tyX1 k) := by decide +kernel
def RX2 : String := "GutterGardens$Outlook"
def TX2 : u_T := fun k => match k with
  | 0 => ("GutterGardens$Outlook", "roofs", "LGutterGardens$Roofs;", true)
  | 1 => ("GutterGardens$Outlook", "now", "LGutterGardens$Waters;", true)
  | 2 => ("GutterGardens$Outlook", "trial", "LGutterGardens$Waters;", true)
  | 3 => ("GutterGardens$Outlook", "steps", "LGutterGardens$Shelf;", true)
  | 4 => ("GutterGardens$Outlook", "planned", "I", false)
  | _ => ("GutterGardens$Outlook", "plannedContent", "I", false)
def tyX2 : Nat → FieldType := fun k => match k with
  | 0 => .object "GutterGardens$Roofs"
  | 1 => .object "GutterGardens$Waters"
  | 2 => .object "GutterGardens$Waters"
  | 3 => .object "GutterGardens$Shelf"
  | 4 => .int
  | _ => .int
abbrev wsX20 : List Cond := u_ws RX2 TX2 6
theorem nmX2 : ∀ a, a < 6 → ∀ b, b < 6 → a ≠ b → (TX2 a).2.1 ≠ (TX2 b).2.1 := by decide +kernel
theorem tyX2_ok : ∀ k, k < 6 → parseFieldDescriptor (TX2 k).2.2.1 = some (tyX2 k) := by decide +kernel
def RX3 : String := "GutterGardens$Reader"
def TX3 : u_T := fun k => match k with
  | 0 => ("GutterGardens$Reader", "told", "LGutterGardens$Roofs;", true)
  | 1 => ("GutterGardens$Reader", "digits", "[I", true)
  | 2 => ("GutterGardens$Reader", "part", "I", false)
  | 3 => ("GutterGardens$Reader", "read", "I", false)
  | _ => ("GutterGardens$Reader", "watered", "I", false)
def tyX3 : Nat → FieldType := fun k => match k with
  | 0 => .object "GutterGardens$Roofs"
  | 1 => .array .int
  | 2 => .int
  | 3 => .int
  | _ => .int
abbrev wsX30 : List Cond := u_ws RX3 TX3 5
theorem nmX3 : ∀ a, a < 5 → ∀ b, b < 5 → a ≠ b → (TX3 a).2.1 ≠ (TX3 b).2.1 := by decide +kernel
theorem tyX3_ok : ∀ k, k < 5 → parseFieldDescriptor (TX3 k).2.2.1 = some (tyX3 k) := by decide +kernel
def RX4 : String := "GutterGardens$Roofs"
def TX4 : u_T := fun k => match k with
  | 0 => ("GutterGardens$Roofs", "soil", "[I", true)
  | 1 => ("GutterGardens$Roofs", "gutter", "[I", true)
  | 2 => ("GutterGardens$Roofs", "want", "[I", true)
  | 3 => ("GutterGardens$Roofs", "brim", "[I", true)
  | 4 => ("GutterGardens$Roofs", "atFirst", "[I", true)
  | _ => ("GutterGardens$Roofs", "number", "I", false)
def tyX4 : Nat → FieldType := fun k => match k with
  | 0 => .array .int
  | 1 => .array .int
  | 2 => .array .int
  | 3 => .array .int
  | 4 => .array .int
  | _ => .int
abbrev wsX40 : List Cond := u_ws RX4 TX4 6
theorem nmX4 : ∀ a, a < 6 → ∀ b, b < 6 → a ≠ b → (TX4 a).2.1 ≠ (TX4 b).2.1 := by decide +kernel
theorem tyX4_ok : ∀ k, k < 6 → parseFieldDescriptor (TX4 k).2.2.1 = some (tyX4 k) := by decide +kernel
def RX5 : String := "GutterGardens$Shelf"
def TX5 : u_T := fun k => match k with
  | 0 => ("GutterGardens$Shelf", "places", "[LGutterGardens$Waters;", true)
  | 1 => ("GutterGardens$Shelf", "filled", "[Z", true)
  | _ => ("GutterGardens$Shelf", "nowhere", "LGutterGardens$Waters;", true)
def tyX5 : Nat → FieldType := fun k => match k with
  | 0 => .array (.object "GutterGardens$Waters")
  | 1 => .array .boolean
  | _ => .object "GutterGardens$Waters"
abbrev wsX50 : List Cond := u_ws RX5 TX5 3
theorem nmX5 : ∀ a, a < 3 → ∀ b, b < 3 → a ≠ b → (TX5 a).2.1 ≠ (TX5 b).2.1 := by decide +kernel
theorem tyX5_ok : ∀ k, k < 3 → parseFieldDescriptor (TX5 k).2.2.1 = some (tyX5 k) := by decide +kernel
def RX6 : String := "GutterGardens$Text"
def TX6 : u_T := fun k => match k with
  | 0 => ("GutterGardens$Text", "bytes", "[I", true)
  | _ => ("GutterGardens$Text", "length", "I", false)
def tyX6 : Nat → FieldType := fun k => match k with
  | 0 => .array .int
  | _ => .int
abbrev wsX60 : List Cond := u_ws RX6 TX6 2
theorem nmX6 : ∀ a, a < 2 → ∀ b, b < 2 → a ≠ b → (TX6 a).2.1 ≠ (TX6 b).2.1 := by decide +kernel
theorem tyX6_ok : ∀ k, k < 2 → parseFieldDescriptor (TX6 k).2.2.1 = some (tyX6 k) := by decide +kernel
def RX7 : String := "GutterGardens$Waters"
def TX7 : u_T := fun k => match k with
  | 0 => ("GutterGardens$Waters", "water", "[I", true)
  | 1 => ("GutterGardens$Waters", "soap", "[I", true)
  | 2 => ("GutterGardens$Waters", "got", "[I", true)
  | 3 => ("GutterGardens$Waters", "spoilt", "[I", true)
  | 4 => ("GutterGardens$Waters", "buttWater", "I", false)
  | 5 => ("GutterGardens$Waters", "buttSoap", "I", false)
  | 6 => ("GutterGardens$Waters", "quarters", "I", false)
  | _ => ("GutterGardens$Waters", "dams", "I", false)
def tyX7 : Nat → FieldType := fun k => match k with
  | 0 => .array .int
  | 1 => .array .int
  | 2 => .array .int
  | 3 => .array .int
  | 4 => .int
  | 5 => .int
  | 6 => .int
  | _ => .int
abbrev wsX70 : List Cond := u_ws RX7 TX7 8
theorem nmX7 : ∀ a, a < 8 → ∀ b, b < 8 → a ≠ b → (TX7 a).2.1 ≠ (TX7 b).2.1 := by decide +kernel
theorem tyX7_ok : ∀ k, k < 8 → parseFieldDescriptor (TX7 k).2.2.1 = some (tyX7 k) := by decide +kernel
def RX8 : String := "GutterGardens"
def TX8 : u_T := fun k => match k with
  | 0 => ("GutterGardens", "text", "LGutterGardens$Text;", true)
  | 1 => ("GutterGardens", "reader", "LGutterGardens$Reader;", true)
  | 2 => ("GutterGardens", "roofs", "LGutterGardens$Roofs;", true)
  | 3 => ("GutterGardens", "now", "LGutterGardens$Waters;", true)
  | 4 => ("GutterGardens", "acts", "LGutterGardens$Acts;", true)
  | 5 => ("GutterGardens", "outlook", "LGutterGardens$Outlook;", true)
  | 6 => ("GutterGardens", "gauges", "LGutterGardens$Gauges;", true)
  | 7 => ("GutterGardens", "slots", "LGutterGardens$Shelf;", true)
  | _ => ("GutterGardens", "theSeed", "J", false)
def tyX8 : Nat → FieldType := fun k => match k with
  | 0 => .object "GutterGardens$Text"
  | 1 => .object "GutterGardens$Reader"
  | 2 => .object "GutterGardens$Roofs"
  | 3 => .object "GutterGardens$Waters"
  | 4 => .object "GutterGardens$Acts"
  | 5 => .object "GutterGardens$Outlook"
  | 6 => .object "GutterGardens$Gauges"
  | 7 => .object "GutterGardens$Shelf"
  | _ => .long
abbrev wsX80 : List Cond := u_ws RX8 TX8 9
theorem nmX8 : ∀ a, a < 9 → ∀ b, b < 9 → a ≠ b → (TX8 a).2.1 ≠ (TX8 b).2.1 := by decide +kernel
theorem tyX8_ok : ∀ k, k < 9 → parseFieldDescriptor (TX8 k).2.2.1 = some (tyX8 k) := by decide +kernel
def RX9 : String := "GutterGardensModel"
def TX9 : u_T := fun k => match k with
  | 0 => ("GutterGardensModel", "readRoofs", "[I", true)
  | 1 => ("GutterGardensModel", "readWater", "[I", true)
  | 2 => ("GutterGardensModel", "readMany", "I", false)
  | 3 => ("GutterGardensModel", "roofs", "[I", true)
  | 4 => ("GutterGardensModel", "now", "[I", true)
  | 5 => ("GutterGardensModel", "many", "I", false)
  | 6 => ("GutterGardensModel", "dams", "I", false)
  | 7 => ("GutterGardensModel", "quarters", "I", false)
  | 8 => ("GutterGardensModel", "text", "[I", true)
  | 9 => ("GutterGardensModel", "length", "I", false)
  | 10 => ("GutterGardensModel", "at", "I", false)
  | 11 => ("GutterGardensModel", "faultAt", "I", false)
  | 12 => ("GutterGardensModel", "acts", "I", false)
  | 13 => ("GutterGardensModel", "next", "I", false)
  | 14 => ("GutterGardensModel", "row", "[I", true)
  | 15 => ("GutterGardensModel", "flows", "[I", true)
  | 16 => ("GutterGardensModel", "suds", "[I", true)
  | 17 => ("GutterGardensModel", "mostServed", "I", false)
  | 18 => ("GutterGardensModel", "ends", "[I", true)
  | 19 => ("GutterGardensModel", "gauges", "I", false)
  | 20 => ("GutterGardensModel", "gaugeAt", "[I", true)
  | 21 => ("GutterGardensModel", "gaugeRain", "[I", true)
  | 22 => ("GutterGardensModel", "gaugeMore", "[I", true)
  | 23 => ("GutterGardensModel", "seed", "J", false)
  | 24 => ("GutterGardensModel", "isKept", "[Z", true)
  | _ => ("GutterGardensModel", "kept", "[I", true)
def tyX9 : Nat → FieldType := fun k => match k with
  | 0 => .array .int
  | 1 => .array .int
  | 2 => .int
  | 3 => .array .int
  | 4 => .array .int
  | 5 => .int
  | 6 => .int
  | 7 => .int
  | 8 => .array .int
  | 9 => .int
  | 10 => .int
  | 11 => .int
  | 12 => .int
  | 13 => .int
  | 14 => .array .int
  | 15 => .array .int
  | 16 => .array .int
  | 17 => .int
  | 18 => .array .int
  | 19 => .int
  | 20 => .array .int
  | 21 => .array .int
  | 22 => .array .int
  | 23 => .long
  | 24 => .array .boolean
  | _ => .array .int
abbrev wsX90 : List Cond := u_ws RX9 TX9 26
theorem nmX9 : ∀ a, a < 26 → ∀ b, b < 26 → a ≠ b → (TX9 a).2.1 ≠ (TX9 b).2.1 := by decide +kernel
theorem tyX9_ok : ∀ k, k < 26 → parseFieldDescriptor (TX9 k).2.2.1 = some (tyX9 k) := by decide +kernel
abbrev vwCl : List vw_C := [(RX0, TX0, 3), (RX1, TX1, 7), (RX2, TX2, 6), (RX3, TX3, 5), (RX4, TX4, 6), (RX5, TX5, 3), (RX6, TX6, 2), (RX7, TX7, 8), (RX8, TX8, 9), (RX9, TX9, 26)]
def gg_GW : List Cond := lw_tbl.filter goodWord
theorem gg_wm {w : Cond} (i : Nat) (h : lw_tbl[i]? = some w) (hg : goodWord w = true) : w ∈ gg_GW := List.mem_filter.mpr ⟨List.mem_of_getElem? h, hg⟩
theorem gg_good {w : Cond} (h : w ∈ gg_GW) : w ∈ gg_GW ∧ ((w.onTables && w.keeps) = true ∨ ∃ ty, w = .arrayClass ty) := ⟨h, good_of_word (List.mem_filter.mp h).2⟩
def gg_NQ : List (String × Nat × MethodName × String) := [("GutterGardens", 9, ⟨"GutterGardens$Text", "<init>", "()V"⟩, "GutterGardens"), ("GutterGardens", 18, ⟨"GutterGardens$Reader", "<init>", "()V"⟩, "GutterGardens"), ("GutterGardens$Reader", 11, ⟨"GutterGardens$Roofs", "<init>", "()V"⟩, "GutterGardens"), ("GutterGardens", 25, ⟨"GutterGardens$Roofs", "<init>", "()V"⟩, "GutterGardens"), ("GutterGardens", 32, ⟨"GutterGardens$Waters", "<init>", "()V"⟩, "GutterGardens"), ("GutterGardens", 39, ⟨"GutterGardens$Acts", "<init>", "()V"⟩, "GutterGardens"), ("GutterGardens$Shelf", 9, ⟨"GutterGardens$Waters", "<init>", "()V"⟩, "GutterGardens"), ("GutterGardens$Outlook", 11, ⟨"GutterGardens$Waters", "<init>", "()V"⟩, "GutterGardens"), ("GutterGardens", 55, ⟨"GutterGardens$Gauges", "<init>", "()V"⟩, "GutterGardens"), ("GutterGardens$Reader", 66, ⟨"GutterGardens", "isWithin", "(III)Z"⟩, "GutterGardens"), ("GutterGardens$Waters", 79, ⟨"GutterGardens", "holds", "(II)Z"⟩, "GutterGardens"), ("GutterGardens$Outlook", 55, ⟨"GutterGardens", "bit", "(I)I"⟩, "GutterGardens"), ("GutterGardens$Waters", 57, ⟨"GutterGardens", "bit", "(I)I"⟩, "GutterGardens"), ("GutterGardens$Outlook", 117, ⟨"GutterGardens", "power", "(JI)J"⟩, "GutterGardens")]
def gg_dN : MethodName := ⟨"", "", ""⟩
def gg_Ns : List MethodName := [⟨"GutterGardensLaw", "law", "([I)Z"⟩, ⟨"GutterGardens$Acts", "<init>", "()V"⟩, ⟨"GutterGardens$Acts", "forgetAll", "()V"⟩, ⟨"GutterGardens$Acts", "remember", "(LGutterGardens$Waters;)V"⟩, ⟨"GutterGardens$Acts", "number", "()I"⟩, ⟨"GutterGardens$Acts", "takeBack", "(LGutterGardens$Waters;)V"⟩, ⟨"GutterGardens$Gauges", "<init>", "()V"⟩, ⟨"GutterGardens$Gauges", "hasRoom", "()Z"⟩, ⟨"GutterGardens$Gauges", "add", "(III)V"⟩, ⟨"GutterGardens$Gauges", "number", "()I"⟩, ⟨"GutterGardens$Gauges", "clear", "()V"⟩, ⟨"GutterGardens$Gauges", "seek", "(LGutterGardens$Outlook;)V"⟩, ⟨"GutterGardens$Gauges", "fitsAll", "(LGutterGardens$Outlook;I)Z"⟩, ⟨"GutterGardens$Gauges", "fitting", "()I"⟩, ⟨"GutterGardens$Gauges", "dammedInSome", "()I"⟩, ⟨"GutterGardens$Gauges", "dammedInAll", "()I"⟩, ⟨"GutterGardens$Outlook", "<init>", "(LGutterGardens$Roofs;LGutterGardens$Waters;)V"⟩, ⟨"GutterGardens$Outlook", "behind", "(III)LGutterGardens$Waters;"⟩, ⟨"GutterGardens$Outlook", "fewestDams", "(II)I"⟩, ⟨"GutterGardens$Outlook", "sets", "()I"⟩, ⟨"GutterGardens$Outlook", "contentBehind", "(III)I"⟩, ⟨"GutterGardens$Outlook", "makePlan", "(II)V"⟩, ⟨"GutterGardens$Outlook", "firstNew", "(III)I"⟩, ⟨"GutterGardens$Outlook", "damsIn", "(IIII)I"⟩, ⟨"GutterGardens$Outlook", "step", "(III)V"⟩, ⟨"GutterGardens$Outlook", "contentByPlan", "()I"⟩, ⟨"GutterGardens$Outlook", "damsInPlan", "(II)I"⟩, ⟨"GutterGardens$Outlook", "damsEachForItself", "(II)I"⟩, ⟨"GutterGardens$Outlook", "waterInButtNow", "()I"⟩, ⟨"GutterGardens$Outlook", "luckOf", "(IIII)J"⟩, ⟨"GutterGardens$Reader", "<init>", "()V"⟩, ⟨"GutterGardens$Reader", "faultIn", "(LGutterGardens$Text;)I"⟩, ⟨"GutterGardens$Reader", "takes", "(II)Z"⟩, ⟨"GutterGardens$Reader", "takesInRoof", "(I)Z"⟩, ⟨"GutterGardens$Reader", "takesInWater", "(I)Z"⟩, ⟨"GutterGardens$Reader", "opensPart", "(I)Z"⟩, ⟨"GutterGardens$Reader", "told", "()LGutterGardens$Roofs;"⟩, ⟨"GutterGardens$Roofs", "<init>", "()V"⟩, ⟨"GutterGardens$Roofs", "clear", "()V"⟩, ⟨"GutterGardens$Roofs", "add", "(IIII)V"⟩, ⟨"GutterGardens$Roofs", "hasDry", "(I)Z"⟩, ⟨"GutterGardens$Roofs", "has", "(I)Z"⟩, ⟨"GutterGardens$Roofs", "tellWater", "(II)V"⟩, ⟨"GutterGardens$Roofs", "hasRoom", "()Z"⟩, ⟨"GutterGardens$Roofs", "hasAnyDry", "()Z"⟩, ⟨"GutterGardens$Roofs", "become", "(LGutterGardens$Roofs;)V"⟩, ⟨"GutterGardens$Roofs", "atFirstOn", "(I)I"⟩, ⟨"GutterGardens$Roofs", "number", "()I"⟩, ⟨"GutterGardens$Roofs", "wantOf", "(I)I"⟩, ⟨"GutterGardens$Roofs", "soilOf", "(I)I"⟩, ⟨"GutterGardens$Roofs", "gutterOf", "(I)I"⟩, ⟨"GutterGardens$Roofs", "brimOf", "(I)I"⟩, ⟨"GutterGardens$Shelf", "<init>", "(I)V"⟩, ⟨"GutterGardens$Shelf", "empty", "()V"⟩, ⟨"GutterGardens$Shelf", "put", "(ILGutterGardens$Waters;)V"⟩, ⟨"GutterGardens$Shelf", "at", "(I)LGutterGardens$Waters;"⟩, ⟨"GutterGardens$Shelf", "isFilled", "(I)Z"⟩, ⟨"GutterGardens$Text", "<init>", "()V"⟩, ⟨"GutterGardens$Text", "hasRoomFor", "(I)Z"⟩, ⟨"GutterGardens$Text", "append", "(IJ)V"⟩, ⟨"GutterGardens$Text", "appendByte", "(I)V"⟩, ⟨"GutterGardens$Text", "length", "()I"⟩, ⟨"GutterGardens$Text", "clear", "()V"⟩, ⟨"GutterGardens$Text", "at", "(I)I"⟩, ⟨"GutterGardens$Waters", "<init>", "()V"⟩, ⟨"GutterGardens$Waters", "beginOn", "(LGutterGardens$Roofs;)V"⟩, ⟨"GutterGardens$Waters", "waterOn", "(I)I"⟩, ⟨"GutterGardens$Waters", "isPlace", "(I)Z"⟩, ⟨"GutterGardens$Waters", "soapOn", "(I)I"⟩, ⟨"GutterGardens$Waters", "gotBy", "(I)I"⟩, ⟨"GutterGardens$Waters", "spoiltOn", "(I)I"⟩, ⟨"GutterGardens$Waters", "isContent", "(LGutterGardens$Roofs;I)Z"⟩, ⟨"GutterGardens$Waters", "damBits", "()I"⟩, ⟨"GutterGardens$Waters", "setDams", "(I)V"⟩, ⟨"GutterGardens$Waters", "become", "(LGutterGardens$Waters;)V"⟩, ⟨"GutterGardens$Waters", "pass", "(LGutterGardens$Roofs;II)I"⟩, ⟨"GutterGardens$Waters", "takeAway", "(II)I"⟩, ⟨"GutterGardens$Waters", "soapAlong", "(III)I"⟩, ⟨"GutterGardens$Waters", "goingFrom", "(ILGutterGardens$Roofs;Z)I"⟩, ⟨"GutterGardens$Waters", "putSoap", "(II)I"⟩, ⟨"GutterGardens$Waters", "soapInButt", "()I"⟩, ⟨"GutterGardens$Waters", "waterInButt", "()I"⟩, ⟨"GutterGardens$Waters", "contentBits", "(LGutterGardens$Roofs;)I"⟩, ⟨"GutterGardens$Waters", "quarters", "()I"⟩, ⟨"GutterGardens$Waters", "waterOnAll", "()I"⟩, ⟨"GutterGardens", "<init>", "()V"⟩, ⟨"GutterGardens", "write", "(IJ)I"⟩, ⟨"GutterGardens", "wipe", "()I"⟩, ⟨"GutterGardens", "fault", "()I"⟩, ⟨"GutterGardens", "isWithin", "(III)Z"⟩, ⟨"GutterGardens", "street", "()I"⟩, ⟨"GutterGardens", "roof", "(II)I"⟩, ⟨"GutterGardens", "holds", "(II)Z"⟩, ⟨"GutterGardens", "bit", "(I)I"⟩, ⟨"GutterGardens", "dam", "(IZ)I"⟩, ⟨"GutterGardens", "quarter", "(I)I"⟩, ⟨"GutterGardens", "isRain", "(I)Z"⟩, ⟨"GutterGardens", "pail", "(II)I"⟩, ⟨"GutterGardens", "soap", "(II)I"⟩, ⟨"GutterGardens", "undo", "()I"⟩, ⟨"GutterGardens", "got", "(III)I"⟩, ⟨"GutterGardens", "butt", "(IIZ)I"⟩, ⟨"GutterGardens", "dams", "(II)I"⟩, ⟨"GutterGardens", "enough", "(II)I"⟩, ⟨"GutterGardens", "plan", "(II)I"⟩, ⟨"GutterGardens", "planRefusal", "(II)I"⟩, ⟨"GutterGardens", "planAt", "(III)I"⟩, ⟨"GutterGardens", "each", "(II)I"⟩, ⟨"GutterGardens", "gauge", "(III)I"⟩, ⟨"GutterGardens", "ungauge", "()I"⟩, ⟨"GutterGardens", "fits", "()I"⟩, ⟨"GutterGardens", "dammed", "(Z)I"⟩, ⟨"GutterGardens", "luck", "(IIIIZ)J"⟩, ⟨"GutterGardens", "power", "(JI)J"⟩, ⟨"GutterGardens", "commonDivisor", "(JJ)J"⟩, ⟨"GutterGardens", "seed", "(J)J"⟩, ⟨"GutterGardens", "summer", "(II)I"⟩, ⟨"GutterGardens", "keep", "(I)I"⟩, ⟨"GutterGardens", "again", "(I)I"⟩, ⟨"GutterGardens", "count", "(I)I"⟩, ⟨"GutterGardensModel", "<init>", "()V"⟩, ⟨"GutterGardensModel", "write", "(IJ)I"⟩, ⟨"GutterGardensModel", "in", "(JJJ)Z"⟩, ⟨"GutterGardensModel", "wipe", "()I"⟩, ⟨"GutterGardensModel", "fault", "()I"⟩, ⟨"GutterGardensModel", "readText", "()I"⟩, ⟨"GutterGardensModel", "figure", "(I)I"⟩, ⟨"GutterGardensModel", "dry", "()I"⟩, ⟨"GutterGardensModel", "street", "()I"⟩, ⟨"GutterGardensModel", "roof", "(II)I"⟩, ⟨"GutterGardensModel", "isRoof", "(I)Z"⟩, ⟨"GutterGardensModel", "hasEnough", "(II)Z"⟩, ⟨"GutterGardensModel", "dam", "(IZ)I"⟩, ⟨"GutterGardensModel", "quarter", "(I)I"⟩, ⟨"GutterGardensModel", "keepAct", "()V"⟩, ⟨"GutterGardensModel", "pass", "(III)I"⟩, ⟨"GutterGardensModel", "along", "(III)I"⟩, ⟨"GutterGardensModel", "pail", "(II)I"⟩, ⟨"GutterGardensModel", "soap", "(II)I"⟩, ⟨"GutterGardensModel", "undo", "()I"⟩, ⟨"GutterGardensModel", "got", "(III)I"⟩, ⟨"GutterGardensModel", "goOn", "(III)V"⟩, ⟨"GutterGardensModel", "copy", "()V"⟩, ⟨"GutterGardensModel", "butt", "(IIZ)I"⟩, ⟨"GutterGardensModel", "dams", "(II)I"⟩, ⟨"GutterGardensModel", "layDams", "(II)I"⟩, ⟨"GutterGardensModel", "served", "()I"⟩, ⟨"GutterGardensModel", "ones", "(I)I"⟩, ⟨"GutterGardensModel", "enough", "(II)I"⟩, ⟨"GutterGardensModel", "plan", "(II)I"⟩, ⟨"GutterGardensModel", "layPlan", "(II)I"⟩, ⟨"GutterGardensModel", "planAt", "(III)I"⟩, ⟨"GutterGardensModel", "each", "(II)I"⟩, ⟨"GutterGardensModel", "gauge", "(III)I"⟩, ⟨"GutterGardensModel", "ungauge", "()I"⟩, ⟨"GutterGardensModel", "fits", "()I"⟩, ⟨"GutterGardensModel", "doesFit", "(I)Z"⟩, ⟨"GutterGardensModel", "dammed", "(Z)I"⟩, ⟨"GutterGardensModel", "luck", "(IIIIZ)J"⟩, ⟨"GutterGardensModel", "part", "(JJZ)J"⟩, ⟨"GutterGardensModel", "seed", "(J)J"⟩, ⟨"GutterGardensModel", "summer", "(II)I"⟩, ⟨"GutterGardensModel", "keep", "(I)I"⟩, ⟨"GutterGardensModel", "again", "(I)I"⟩, ⟨"GutterGardensModel", "count", "(I)I"⟩, ⟨"java/lang/Integer", "bitCount", "(I)I"⟩]
def gg_Bs : List ByteArray := [code, prog_2_method_1_code, prog_2_method_5_code, prog_2_method_3_code, prog_2_method_2_code, prog_2_method_4_code, prog_3_method_1_code, prog_3_method_3_code, prog_3_method_4_code, prog_3_method_2_code, prog_3_method_5_code, prog_3_method_6_code, prog_3_method_10_code, prog_3_method_7_code, prog_3_method_9_code, prog_3_method_8_code, prog_4_method_1_code, prog_4_method_2_code, prog_4_method_6_code, prog_4_method_3_code, prog_4_method_5_code, prog_4_method_8_code, prog_4_method_14_code, prog_4_method_13_code, prog_4_method_12_code, prog_4_method_9_code, prog_4_method_10_code, prog_4_method_7_code, prog_4_method_4_code, prog_4_method_11_code, prog_5_method_1_code, prog_5_method_3_code, prog_5_method_4_code, prog_5_method_6_code, prog_5_method_7_code, prog_5_method_5_code, prog_5_method_2_code, prog_6_method_1_code, prog_6_method_7_code, prog_6_method_8_code, prog_6_method_5_code, prog_6_method_3_code, prog_6_method_9_code, prog_6_method_4_code, prog_6_method_6_code, prog_6_method_10_code, prog_6_method_15_code, prog_6_method_2_code, prog_6_method_13_code, prog_6_method_11_code, prog_6_method_12_code, prog_6_method_14_code, prog_7_method_1_code, prog_7_method_5_code, prog_7_method_3_code, prog_7_method_2_code, prog_7_method_4_code, prog_8_method_1_code, prog_8_method_4_code, prog_8_method_5_code, prog_8_method_7_code, prog_8_method_2_code, prog_8_method_6_code, prog_8_method_3_code, prog_9_method_1_code, prog_9_method_14_code, prog_9_method_2_code, prog_9_method_21_code, prog_9_method_3_code, prog_9_method_4_code, prog_9_method_5_code, prog_9_method_12_code, prog_9_method_9_code, prog_9_method_10_code, prog_9_method_15_code, prog_9_method_18_code, prog_9_method_16_code, prog_9_method_20_code, prog_9_method_19_code, prog_9_method_17_code, prog_9_method_7_code, prog_9_method_6_code, prog_9_method_13_code, prog_9_method_8_code, prog_9_method_11_code, prog_1_method_1_code, prog_1_method_2_code, prog_1_method_3_code, prog_1_method_4_code, prog_1_method_30_code, prog_1_method_5_code, prog_1_method_6_code, prog_1_method_33_code, prog_1_method_32_code, prog_1_method_7_code, prog_1_method_8_code, prog_1_method_31_code, prog_1_method_9_code, prog_1_method_10_code, prog_1_method_11_code, prog_1_method_12_code, prog_1_method_13_code, prog_1_method_14_code, prog_1_method_15_code, prog_1_method_16_code, prog_1_method_19_code, prog_1_method_17_code, prog_1_method_18_code, prog_1_method_20_code, prog_1_method_21_code, prog_1_method_22_code, prog_1_method_23_code, prog_1_method_24_code, prog_1_method_34_code, prog_1_method_35_code, prog_1_method_25_code, prog_1_method_26_code, prog_1_method_27_code, prog_1_method_28_code, prog_1_method_29_code, prog_11_method_1_code, prog_11_method_4_code, prog_11_method_3_code, prog_11_method_5_code, prog_11_method_9_code, prog_11_method_8_code, prog_11_method_6_code, prog_11_method_7_code, prog_11_method_10_code, prog_11_method_13_code, prog_11_method_11_code, prog_11_method_12_code, prog_11_method_14_code, prog_11_method_18_code, prog_11_method_15_code, prog_11_method_17_code, prog_11_method_16_code, prog_11_method_19_code, prog_11_method_20_code, prog_11_method_21_code, prog_11_method_24_code, prog_11_method_23_code, prog_11_method_22_code, prog_11_method_25_code, prog_11_method_29_code, prog_11_method_28_code, prog_11_method_26_code, prog_11_method_27_code, prog_11_method_30_code, prog_11_method_32_code, prog_11_method_31_code, prog_11_method_33_code, prog_11_method_34_code, prog_11_method_35_code, prog_11_method_36_code, prog_11_method_38_code, prog_11_method_37_code, prog_11_method_39_code, prog_11_method_41_code, prog_11_method_40_code, prog_11_method_42_code, prog_11_method_43_code, prog_11_method_44_code, prog_11_method_45_code, prog_11_method_46_code, prog_12_method_49_code]
def gg_Ls : List Nat := [4, 1, 1, 2, 1, 2, 1, 1, 4, 1, 1, 3, 5, 1, 1, 1, 3, 5, 8, 1, 4, 8, 4, 4, 5, 1, 3, 7, 1, 9, 1, 3, 3, 3, 2, 3, 1, 1, 1, 5, 2, 2, 3, 1, 2, 3, 2, 1, 2, 2, 2, 2, 4, 2, 3, 3, 2, 1, 2, 5, 2, 1, 1, 2, 1, 3, 2, 1, 2, 2, 2, 3, 1, 2, 3, 10, 4, 3, 7, 3, 1, 1, 4, 1, 3, 1, 4, 2, 1, 3, 1, 3, 2, 1, 3, 2, 1, 3, 3, 2, 4, 5, 3, 3, 4, 3, 5, 3, 4, 2, 1, 2, 12, 6, 11, 5, 5, 2, 2, 2, 1, 5, 6, 2, 1, 3, 3, 3, 2, 3, 2, 3, 4, 2, 2, 11, 3, 4, 3, 2, 4, 5, 2, 4, 3, 7, 3, 3, 3, 3, 8, 4, 8, 4, 2, 3, 4, 6, 15, 11, 5, 4, 3, 3, 5, 1]
def gg_Rs : List (Option FieldType) := [ret, (Option.none : Option Jvm.ClassFile.FieldType), (Option.none : Option Jvm.ClassFile.FieldType), (Option.none : Option Jvm.ClassFile.FieldType), (Option.some Jvm.ClassFile.FieldType.int), (Option.none : Option Jvm.ClassFile.FieldType), (Option.none : Option Jvm.ClassFile.FieldType), (Option.some Jvm.ClassFile.FieldType.boolean), (Option.none : Option Jvm.ClassFile.FieldType), (Option.some Jvm.ClassFile.FieldType.int), (Option.none : Option Jvm.ClassFile.FieldType), (Option.none : Option Jvm.ClassFile.FieldType), (Option.some Jvm.ClassFile.FieldType.boolean), (Option.some Jvm.ClassFile.FieldType.int), (Option.some Jvm.ClassFile.FieldType.int), (Option.some Jvm.ClassFile.FieldType.int), (Option.none : Option Jvm.ClassFile.FieldType), (Option.some (Jvm.ClassFile.FieldType.object "GutterGardens$Waters")), (Option.some Jvm.ClassFile.FieldType.int), (Option.some Jvm.ClassFile.FieldType.int), (Option.some Jvm.ClassFile.FieldType.int), (Option.none : Option Jvm.ClassFile.FieldType), (Option.some Jvm.ClassFile.FieldType.int), (Option.some Jvm.ClassFile.FieldType.int), (Option.none : Option Jvm.ClassFile.FieldType), (Option.some Jvm.ClassFile.FieldType.int), (Option.some Jvm.ClassFile.FieldType.int), (Option.some Jvm.ClassFile.FieldType.int), (Option.some Jvm.ClassFile.FieldType.int), (Option.some Jvm.ClassFile.FieldType.long), (Option.none : Option Jvm.ClassFile.FieldType), (Option.some Jvm.ClassFile.FieldType.int), (Option.some Jvm.ClassFile.FieldType.boolean), (Option.some Jvm.ClassFile.FieldType.boolean), (Option.some Jvm.ClassFile.FieldType.boolean), (Option.some Jvm.ClassFile.FieldType.boolean), (Option.some (Jvm.ClassFile.FieldType.object "GutterGardens$Roofs")), (Option.none : Option Jvm.ClassFile.FieldType), (Option.none : Option Jvm.ClassFile.FieldType), (Option.none : Option Jvm.ClassFile.FieldType), (Option.some Jvm.ClassFile.FieldType.boolean), (Option.some Jvm.ClassFile.FieldType.boolean), (Option.none : Option Jvm.ClassFile.FieldType), (Option.some Jvm.ClassFile.FieldType.boolean), (Option.some Jvm.ClassFile.FieldType.boolean), (Option.none : Option Jvm.ClassFile.FieldType), (Option.some Jvm.ClassFile.FieldType.int), (Option.some Jvm.ClassFile.FieldType.int), (Option.some Jvm.ClassFile.FieldType.int), (Option.some Jvm.ClassFile.FieldType.int), (Option.some Jvm.ClassFile.FieldType.int), (Option.some Jvm.ClassFile.FieldType.int), (Option.none : Option Jvm.ClassFile.FieldType), (Option.none : Option Jvm.ClassFile.FieldType), (Option.none : Option Jvm.ClassFile.FieldType), (Option.some (Jvm.ClassFile.FieldType.object "GutterGardens$Waters")), (Option.some Jvm.ClassFile.FieldType.boolean), (Option.none : Option Jvm.ClassFile.FieldType), (Option.some Jvm.ClassFile.FieldType.boolean), (Option.none : Option Jvm.ClassFile.FieldType), (Option.none : Option Jvm.ClassFile.FieldType), (Option.some Jvm.ClassFile.FieldType.int), (Option.none : Option Jvm.ClassFile.FieldType), (Option.some Jvm.ClassFile.FieldType.int), (Option.none : Option Jvm.ClassFile.FieldType), (Option.none : Option Jvm.ClassFile.FieldType), (Option.some Jvm.ClassFile.FieldType.int), (Option.some Jvm.ClassFile.FieldType.boolean), (Option.some Jvm.ClassFile.FieldType.int), (Option.some Jvm.ClassFile.FieldType.int), (Option.some Jvm.ClassFile.FieldType.int), (Option.some Jvm.ClassFile.FieldType.boolean), (Option.some Jvm.ClassFile.FieldType.int), (Option.none : Option Jvm.ClassFile.FieldType), (Option.none : Option Jvm.ClassFile.FieldType), (Option.some Jvm.ClassFile.FieldType.int), (Option.some Jvm.ClassFile.FieldType.int), (Option.some Jvm.ClassFile.FieldType.int), (Option.some Jvm.ClassFile.FieldType.int), (Option.some Jvm.ClassFile.FieldType.int), (Option.some Jvm.ClassFile.FieldType.int), (Option.some Jvm.ClassFile.FieldType.int), (Option.some Jvm.ClassFile.FieldType.int), (Option.some Jvm.ClassFile.FieldType.int), (Option.some Jvm.ClassFile.FieldType.int), (Option.none : Option Jvm.ClassFile.FieldType), (Option.some Jvm.ClassFile.FieldType.int), (Option.some Jvm.ClassFile.FieldType.int), (Option.some Jvm.ClassFile.FieldType.int), (Option.some Jvm.ClassFile.FieldType.boolean), (Option.some Jvm.ClassFile.FieldType.int), (Option.some Jvm.ClassFile.FieldType.int), (Option.some Jvm.ClassFile.FieldType.boolean), (Option.some Jvm.ClassFile.FieldType.int), (Option.some Jvm.ClassFile.FieldType.int), (Option.some Jvm.ClassFile.FieldType.int), (Option.some Jvm.ClassFile.FieldType.boolean), (Option.some Jvm.ClassFile.FieldType.int), (Option.some Jvm.ClassFile.FieldType.int), (Option.some Jvm.ClassFile.FieldType.int), (Option.some Jvm.ClassFile.FieldType.int), (Option.some Jvm.ClassFile.FieldType.int), (Option.some Jvm.ClassFile.FieldType.int), (Option.some Jvm.ClassFile.FieldType.int), (Option.some Jvm.ClassFile.FieldType.int), (Option.some Jvm.ClassFile.FieldType.int), (Option.some Jvm.ClassFile.FieldType.int), (Option.some Jvm.ClassFile.FieldType.int), (Option.some Jvm.ClassFile.FieldType.int), (Option.some Jvm.ClassFile.FieldType.int), (Option.some Jvm.ClassFile.FieldType.int), (Option.some Jvm.ClassFile.FieldType.int), (Option.some Jvm.ClassFile.FieldType.long), (Option.some Jvm.ClassFile.FieldType.long), (Option.some Jvm.ClassFile.FieldType.long), (Option.some Jvm.ClassFile.FieldType.long), (Option.some Jvm.ClassFile.FieldType.int), (Option.some Jvm.ClassFile.FieldType.int), (Option.some Jvm.ClassFile.FieldType.int), (Option.some Jvm.ClassFile.FieldType.int), (Option.none : Option Jvm.ClassFile.FieldType), (Option.some Jvm.ClassFile.FieldType.int), (Option.some Jvm.ClassFile.FieldType.boolean), (Option.some Jvm.ClassFile.FieldType.int), (Option.some Jvm.ClassFile.FieldType.int), (Option.some Jvm.ClassFile.FieldType.int), (Option.some Jvm.ClassFile.FieldType.int), (Option.some Jvm.ClassFile.FieldType.int), (Option.some Jvm.ClassFile.FieldType.int), (Option.some Jvm.ClassFile.FieldType.int), (Option.some Jvm.ClassFile.FieldType.boolean), (Option.some Jvm.ClassFile.FieldType.boolean), (Option.some Jvm.ClassFile.FieldType.int), (Option.some Jvm.ClassFile.FieldType.int), (Option.none : Option Jvm.ClassFile.FieldType), (Option.some Jvm.ClassFile.FieldType.int), (Option.some Jvm.ClassFile.FieldType.int), (Option.some Jvm.ClassFile.FieldType.int), (Option.some Jvm.ClassFile.FieldType.int), (Option.some Jvm.ClassFile.FieldType.int), (Option.some Jvm.ClassFile.FieldType.int), (Option.none : Option Jvm.ClassFile.FieldType), (Option.none : Option Jvm.ClassFile.FieldType), (Option.some Jvm.ClassFile.FieldType.int), (Option.some Jvm.ClassFile.FieldType.int), (Option.some Jvm.ClassFile.FieldType.int), (Option.some Jvm.ClassFile.FieldType.int), (Option.some Jvm.ClassFile.FieldType.int), (Option.some Jvm.ClassFile.FieldType.int), (Option.some Jvm.ClassFile.FieldType.int), (Option.some Jvm.ClassFile.FieldType.int), (Option.some Jvm.ClassFile.FieldType.int), (Option.some Jvm.ClassFile.FieldType.int), (Option.some Jvm.ClassFile.FieldType.int), (Option.some Jvm.ClassFile.FieldType.int), (Option.some Jvm.ClassFile.FieldType.int), (Option.some Jvm.ClassFile.FieldType.boolean), (Option.some Jvm.ClassFile.FieldType.int), (Option.some Jvm.ClassFile.FieldType.long), (Option.some Jvm.ClassFile.FieldType.long), (Option.some Jvm.ClassFile.FieldType.long), (Option.some Jvm.ClassFile.FieldType.int), (Option.some Jvm.ClassFile.FieldType.int), (Option.some Jvm.ClassFile.FieldType.int), (Option.some Jvm.ClassFile.FieldType.int), (Option.some Jvm.ClassFile.FieldType.int)]
def gg_As : List Nat := [1, 0, 0, 1, 0, 1, 0, 0, 3, 0, 0, 1, 2, 0, 0, 0, 2, 3, 2, 0, 3, 2, 3, 4, 3, 0, 2, 2, 0, 4, 0, 1, 2, 1, 1, 1, 0, 0, 0, 4, 1, 1, 2, 0, 0, 1, 1, 0, 1, 1, 1, 1, 1, 0, 2, 1, 1, 0, 1, 2, 1, 0, 0, 1, 0, 1, 1, 1, 1, 1, 1, 2, 0, 1, 1, 3, 2, 3, 3, 2, 0, 0, 1, 0, 0, 0, 2, 0, 0, 3, 0, 2, 2, 1, 2, 1, 1, 2, 2, 0, 3, 3, 2, 2, 2, 2, 3, 2, 3, 0, 0, 1, 5, 2, 2, 1, 2, 1, 1, 1, 0, 2, 3, 0, 0, 0, 1, 0, 0, 2, 1, 2, 2, 1, 0, 3, 3, 2, 2, 0, 3, 3, 0, 3, 2, 2, 0, 1, 2, 2, 2, 3, 2, 3, 0, 0, 1, 1, 5, 3, 1, 2, 1, 1, 1, 1]
def gg_Ks : List Nat := [9, 3, 1, 3, 1, 2, 1, 1, 1, 1, 1, 7, 6, 1, 1, 1, 3, 5, 7, 2, 6, 6, 2, 1, 5, 1, 2, 6, 2, 6, 2, 6, 5, 2, 3, 4, 1, 1, 1, 1, 2, 1, 2, 1, 3, 3, 2, 1, 2, 2, 2, 2, 2, 1, 2, 1, 1, 1, 1, 2, 1, 1, 1, 1, 1, 3, 2, 1, 2, 2, 2, 3, 1, 1, 1, 4, 2, 1, 3, 2, 1, 1, 4, 1, 1, 4, 3, 2, 7, 1, 7, 4, 2, 1, 3, 5, 2, 4, 4, 3, 6, 6, 8, 8, 7, 3, 7, 7, 3, 2, 8, 8, 7, 1, 1, 1, 6, 3, 2, 5, 1, 2, 1, 1, 4, 3, 2, 1, 4, 3, 2, 1, 3, 3, 1, 2, 1, 3, 3, 1, 4, 3, 1, 4, 5, 4, 2, 1, 5, 4, 3, 4, 4, 2, 1, 5, 4, 5, 3, 1, 1, 3, 2, 2, 2, 1]
def mN (y : Nat) : MethodName := gg_Ns.getD y gg_dN
def mB (y : Nat) : ByteArray := gg_Bs.getD y code
def mL (y : Nat) : Nat := gg_Ls.getD y 0
def mR (y : Nat) : Option FieldType := gg_Rs.getD y none
def mA (y : Nat) : Nat := gg_As.getD y 0
def mK (y : Nat) : Nat := gg_Ks.getD y 0
def gg_wsy (y : Nat) : List Cond := .code (mN y) (mB y) (mL y) (mR y) :: gg_GW
theorem gg_plain : ∀ y, y < 166 → plainName (mN y).cls = true := by decide +kernel
theorem gg_L21 : ∀ y, mL y ≤ 21 := by
  intro y
  by_cases h : y < 166
  · exact (show ∀ y, y < 166 → mL y ≤ 21 by decide +kernel) y h
  · have : mL y = 0 := by unfold mL; rw [List.getD_eq_getElem?_getD, List.getElem?_eq_none (by rw [show gg_Ls.length = 166 from by decide +kernel]; omega)]; rfl
    omega
/-- what a call's link needs of the words: of the method itself -/
def gg_CB (y : Nat) : Prop := (Cond.initialized (mN y).cls) ∈ gg_GW ∧ (Cond.code (mN y) (mB y) (mL y) (mR y)) ∈ gg_GW ∧ ((mN y).cls ≠ "java/lang/invoke/MethodHandle" ∧ (mN y).cls ≠ "java/lang/invoke/VarHandle" ∧ (parseMethodDescriptor (mN y).desc).map (fun d => d.parameters.length) = some (mA y)) ∧ y ≠ 0 ∧ y < 166
def gg_CV (own : String) (idx y : Nat) : Prop := (Cond.methodLink own idx (mN y)) ∈ gg_GW ∧ (Cond.instanceMethod (mN y)) ∈ gg_GW ∧ (Cond.selects (mN y).cls (mN y) (mN y)) ∈ gg_GW ∧ gg_CB y
def gg_CS (own : String) (idx y : Nat) : Prop := (Cond.methodLink own idx (mN y)) ∈ gg_GW ∧ (Cond.static (mN y)) ∈ gg_GW ∧ gg_CB y
def gg_CI (own : String) (idx y : Nat) : Prop := (Cond.methodLink own idx (mN y)) ∈ gg_GW ∧ (Cond.instanceMethod (mN y)) ∈ gg_GW ∧ (mN y).name = "<init>" ∧ mR y = none ∧ gg_CB y
def gg_CSN (own : String) (idx y : Nat) : Prop := (∃ host, (own, idx, mN y, host) ∈ gg_NQ) ∧ (Cond.static (mN y)) ∈ gg_GW ∧ gg_CB y
def gg_CIN (own : String) (idx y : Nat) : Prop := (∃ host, (own, idx, mN y, host) ∈ gg_NQ) ∧ (Cond.instanceMethod (mN y)) ∈ gg_GW ∧ (mN y).name = "<init>" ∧ mR y = none ∧ gg_CB y
def gg_FL (own : String) (idx ci k : Nat) : Prop := ∃ (C : String) (T : u_T) (n : Nat), vwCl[ci]? = some (C, T, n) ∧ k < n ∧ (Cond.fieldLink own idx (T k).1 (T k).2.1 (T k).2.2.1) ∈ gg_GW
theorem cb_1 : gg_CB 1 := ⟨(gg_wm 28 (by decide +kernel) rfl), (gg_wm 141 (by decide +kernel) rfl), ⟨(by decide +kernel), (by decide +kernel), (by decide +kernel)⟩, (by decide), (by decide)⟩
theorem cb_2 : gg_CB 2 := ⟨(gg_wm 28 (by decide +kernel) rfl), (gg_wm 378 (by decide +kernel) rfl), ⟨(by decide +kernel), (by decide +kernel), (by decide +kernel)⟩, (by decide), (by decide)⟩
theorem cb_3 : gg_CB 3 := ⟨(gg_wm 28 (by decide +kernel) rfl), (gg_wm 462 (by decide +kernel) rfl), ⟨(by decide +kernel), (by decide +kernel), (by decide +kernel)⟩, (by decide), (by decide)⟩
theorem cb_4 : gg_CB 4 := ⟨(gg_wm 28 (by decide +kernel) rfl), (gg_wm 521 (by decide +kernel) rfl), ⟨(by decide +kernel), (by decide +kernel), (by decide +kernel)⟩, (by decide), (by decide)⟩
theorem cb_5 : gg_CB 5 := ⟨(gg_wm 28 (by decide +kernel) rfl), (gg_wm 525 (by decide +kernel) rfl), ⟨(by decide +kernel), (by decide +kernel), (by decide +kernel)⟩, (by decide), (by decide)⟩
theorem cb_6 : gg_CB 6 := ⟨(gg_wm 32 (by decide +kernel) rfl), (gg_wm 209 (by decide +kernel) rfl), ⟨(by decide +kernel), (by decide +kernel), (by decide +kernel)⟩, (by decide), (by decide)⟩
theorem cb_7 : gg_CB 7 := ⟨(gg_wm 32 (by decide +kernel) rfl), (gg_wm 640 (by decide +kernel) rfl), ⟨(by decide +kernel), (by decide +kernel), (by decide +kernel)⟩, (by decide), (by decide)⟩
theorem cb_8 : gg_CB 8 := ⟨(gg_wm 32 (by decide +kernel) rfl), (gg_wm 644 (by decide +kernel) rfl), ⟨(by decide +kernel), (by decide +kernel), (by decide +kernel)⟩, (by decide), (by decide)⟩
theorem cb_9 : gg_CB 9 := ⟨(gg_wm 32 (by decide +kernel) rfl), (gg_wm 648 (by decide +kernel) rfl), ⟨(by decide +kernel), (by decide +kernel), (by decide +kernel)⟩, (by decide), (by decide)⟩
theorem cb_10 : gg_CB 10 := ⟨(gg_wm 32 (by decide +kernel) rfl), (gg_wm 656 (by decide +kernel) rfl), ⟨(by decide +kernel), (by decide +kernel), (by decide +kernel)⟩, (by decide), (by decide)⟩
theorem cb_11 : gg_CB 11 := ⟨(gg_wm 32 (by decide +kernel) rfl), (gg_wm 664 (by decide +kernel) rfl), ⟨(by decide +kernel), (by decide +kernel), (by decide +kernel)⟩, (by decide), (by decide)⟩
theorem cb_12 : gg_CB 12 := ⟨(gg_wm 32 (by decide +kernel) rfl), (gg_wm 669 (by decide +kernel) rfl), ⟨(by decide +kernel), (by decide +kernel), (by decide +kernel)⟩, (by decide), (by decide)⟩
theorem cb_13 : gg_CB 13 := ⟨(gg_wm 32 (by decide +kernel) rfl), (gg_wm 680 (by decide +kernel) rfl), ⟨(by decide +kernel), (by decide +kernel), (by decide +kernel)⟩, (by decide), (by decide)⟩
theorem cb_14 : gg_CB 14 := ⟨(gg_wm 32 (by decide +kernel) rfl), (gg_wm 688 (by decide +kernel) rfl), ⟨(by decide +kernel), (by decide +kernel), (by decide +kernel)⟩, (by decide), (by decide)⟩
theorem cb_15 : gg_CB 15 := ⟨(gg_wm 32 (by decide +kernel) rfl), (gg_wm 692 (by decide +kernel) rfl), ⟨(by decide +kernel), (by decide +kernel), (by decide +kernel)⟩, (by decide), (by decide)⟩
theorem cb_16 : gg_CB 16 := ⟨(gg_wm 31 (by decide +kernel) rfl), (gg_wm 180 (by decide +kernel) rfl), ⟨(by decide +kernel), (by decide +kernel), (by decide +kernel)⟩, (by decide), (by decide)⟩
theorem cb_17 : gg_CB 17 := ⟨(gg_wm 31 (by decide +kernel) rfl), (gg_wm 535 (by decide +kernel) rfl), ⟨(by decide +kernel), (by decide +kernel), (by decide +kernel)⟩, (by decide), (by decide)⟩
theorem cb_18 : gg_CB 18 := ⟨(gg_wm 31 (by decide +kernel) rfl), (gg_wm 557 (by decide +kernel) rfl), ⟨(by decide +kernel), (by decide +kernel), (by decide +kernel)⟩, (by decide), (by decide)⟩
theorem cb_19 : gg_CB 19 := ⟨(gg_wm 31 (by decide +kernel) rfl), (gg_wm 561 (by decide +kernel) rfl), ⟨(by decide +kernel), (by decide +kernel), (by decide +kernel)⟩, (by decide), (by decide)⟩
theorem cb_20 : gg_CB 20 := ⟨(gg_wm 31 (by decide +kernel) rfl), (gg_wm 567 (by decide +kernel) rfl), ⟨(by decide +kernel), (by decide +kernel), (by decide +kernel)⟩, (by decide), (by decide)⟩
theorem cb_21 : gg_CB 21 := ⟨(gg_wm 31 (by decide +kernel) rfl), (gg_wm 597 (by decide +kernel) rfl), ⟨(by decide +kernel), (by decide +kernel), (by decide +kernel)⟩, (by decide), (by decide)⟩
theorem cb_22 : gg_CB 22 := ⟨(gg_wm 31 (by decide +kernel) rfl), (gg_wm 602 (by decide +kernel) rfl), ⟨(by decide +kernel), (by decide +kernel), (by decide +kernel)⟩, (by decide), (by decide)⟩
theorem cb_23 : gg_CB 23 := ⟨(gg_wm 31 (by decide +kernel) rfl), (gg_wm 605 (by decide +kernel) rfl), ⟨(by decide +kernel), (by decide +kernel), (by decide +kernel)⟩, (by decide), (by decide)⟩
theorem cb_24 : gg_CB 24 := ⟨(gg_wm 31 (by decide +kernel) rfl), (gg_wm 610 (by decide +kernel) rfl), ⟨(by decide +kernel), (by decide +kernel), (by decide +kernel)⟩, (by decide), (by decide)⟩
theorem cb_25 : gg_CB 25 := ⟨(gg_wm 31 (by decide +kernel) rfl), (gg_wm 615 (by decide +kernel) rfl), ⟨(by decide +kernel), (by decide +kernel), (by decide +kernel)⟩, (by decide), (by decide)⟩
theorem cb_26 : gg_CB 26 := ⟨(gg_wm 31 (by decide +kernel) rfl), (gg_wm 623 (by decide +kernel) rfl), ⟨(by decide +kernel), (by decide +kernel), (by decide +kernel)⟩, (by decide), (by decide)⟩
theorem cb_27 : gg_CB 27 := ⟨(gg_wm 31 (by decide +kernel) rfl), (gg_wm 631 (by decide +kernel) rfl), ⟨(by decide +kernel), (by decide +kernel), (by decide +kernel)⟩, (by decide), (by decide)⟩
theorem cb_28 : gg_CB 28 := ⟨(gg_wm 31 (by decide +kernel) rfl), (gg_wm 675 (by decide +kernel) rfl), ⟨(by decide +kernel), (by decide +kernel), (by decide +kernel)⟩, (by decide), (by decide)⟩
theorem cb_29 : gg_CB 29 := ⟨(gg_wm 31 (by decide +kernel) rfl), (gg_wm 702 (by decide +kernel) rfl), ⟨(by decide +kernel), (by decide +kernel), (by decide +kernel)⟩, (by decide), (by decide)⟩
theorem cb_30 : gg_CB 30 := ⟨(gg_wm 25 (by decide +kernel) rfl), (gg_wm 61 (by decide +kernel) rfl), ⟨(by decide +kernel), (by decide +kernel), (by decide +kernel)⟩, (by decide), (by decide)⟩
theorem cb_31 : gg_CB 31 := ⟨(gg_wm 25 (by decide +kernel) rfl), (gg_wm 298 (by decide +kernel) rfl), ⟨(by decide +kernel), (by decide +kernel), (by decide +kernel)⟩, (by decide), (by decide)⟩
theorem cb_32 : gg_CB 32 := ⟨(gg_wm 25 (by decide +kernel) rfl), (gg_wm 311 (by decide +kernel) rfl), ⟨(by decide +kernel), (by decide +kernel), (by decide +kernel)⟩, (by decide), (by decide)⟩
theorem cb_33 : gg_CB 33 := ⟨(gg_wm 25 (by decide +kernel) rfl), (gg_wm 315 (by decide +kernel) rfl), ⟨(by decide +kernel), (by decide +kernel), (by decide +kernel)⟩, (by decide), (by decide)⟩
theorem cb_34 : gg_CB 34 := ⟨(gg_wm 25 (by decide +kernel) rfl), (gg_wm 326 (by decide +kernel) rfl), ⟨(by decide +kernel), (by decide +kernel), (by decide +kernel)⟩, (by decide), (by decide)⟩
theorem cb_35 : gg_CB 35 := ⟨(gg_wm 25 (by decide +kernel) rfl), (gg_wm 342 (by decide +kernel) rfl), ⟨(by decide +kernel), (by decide +kernel), (by decide +kernel)⟩, (by decide), (by decide)⟩
theorem cb_36 : gg_CB 36 := ⟨(gg_wm 25 (by decide +kernel) rfl), (gg_wm 359 (by decide +kernel) rfl), ⟨(by decide +kernel), (by decide +kernel), (by decide +kernel)⟩, (by decide), (by decide)⟩
theorem cb_37 : gg_CB 37 := ⟨(gg_wm 26 (by decide +kernel) rfl), (gg_wm 67 (by decide +kernel) rfl), ⟨(by decide +kernel), (by decide +kernel), (by decide +kernel)⟩, (by decide), (by decide)⟩
theorem cb_38 : gg_CB 38 := ⟨(gg_wm 26 (by decide +kernel) rfl), (gg_wm 302 (by decide +kernel) rfl), ⟨(by decide +kernel), (by decide +kernel), (by decide +kernel)⟩, (by decide), (by decide)⟩
theorem cb_39 : gg_CB 39 := ⟨(gg_wm 26 (by decide +kernel) rfl), (gg_wm 322 (by decide +kernel) rfl), ⟨(by decide +kernel), (by decide +kernel), (by decide +kernel)⟩, (by decide), (by decide)⟩
theorem cb_40 : gg_CB 40 := ⟨(gg_wm 26 (by decide +kernel) rfl), (gg_wm 330 (by decide +kernel) rfl), ⟨(by decide +kernel), (by decide +kernel), (by decide +kernel)⟩, (by decide), (by decide)⟩
theorem cb_41 : gg_CB 41 := ⟨(gg_wm 26 (by decide +kernel) rfl), (gg_wm 334 (by decide +kernel) rfl), ⟨(by decide +kernel), (by decide +kernel), (by decide +kernel)⟩, (by decide), (by decide)⟩
theorem cb_42 : gg_CB 42 := ⟨(gg_wm 26 (by decide +kernel) rfl), (gg_wm 338 (by decide +kernel) rfl), ⟨(by decide +kernel), (by decide +kernel), (by decide +kernel)⟩, (by decide), (by decide)⟩
theorem cb_43 : gg_CB 43 := ⟨(gg_wm 26 (by decide +kernel) rfl), (gg_wm 346 (by decide +kernel) rfl), ⟨(by decide +kernel), (by decide +kernel), (by decide +kernel)⟩, (by decide), (by decide)⟩
theorem cb_44 : gg_CB 44 := ⟨(gg_wm 26 (by decide +kernel) rfl), (gg_wm 350 (by decide +kernel) rfl), ⟨(by decide +kernel), (by decide +kernel), (by decide +kernel)⟩, (by decide), (by decide)⟩
theorem cb_45 : gg_CB 45 := ⟨(gg_wm 26 (by decide +kernel) rfl), (gg_wm 363 (by decide +kernel) rfl), ⟨(by decide +kernel), (by decide +kernel), (by decide +kernel)⟩, (by decide), (by decide)⟩
theorem cb_46 : gg_CB 46 := ⟨(gg_wm 26 (by decide +kernel) rfl), (gg_wm 374 (by decide +kernel) rfl), ⟨(by decide +kernel), (by decide +kernel), (by decide +kernel)⟩, (by decide), (by decide)⟩
theorem cb_47 : gg_CB 47 := ⟨(gg_wm 26 (by decide +kernel) rfl), (gg_wm 386 (by decide +kernel) rfl), ⟨(by decide +kernel), (by decide +kernel), (by decide +kernel)⟩, (by decide), (by decide)⟩
theorem cb_48 : gg_CB 48 := ⟨(gg_wm 26 (by decide +kernel) rfl), (gg_wm 419 (by decide +kernel) rfl), ⟨(by decide +kernel), (by decide +kernel), (by decide +kernel)⟩, (by decide), (by decide)⟩
theorem cb_49 : gg_CB 49 := ⟨(gg_wm 26 (by decide +kernel) rfl), (gg_wm 433 (by decide +kernel) rfl), ⟨(by decide +kernel), (by decide +kernel), (by decide +kernel)⟩, (by decide), (by decide)⟩
theorem cb_50 : gg_CB 50 := ⟨(gg_wm 26 (by decide +kernel) rfl), (gg_wm 437 (by decide +kernel) rfl), ⟨(by decide +kernel), (by decide +kernel), (by decide +kernel)⟩, (by decide), (by decide)⟩
theorem cb_51 : gg_CB 51 := ⟨(gg_wm 26 (by decide +kernel) rfl), (gg_wm 442 (by decide +kernel) rfl), ⟨(by decide +kernel), (by decide +kernel), (by decide +kernel)⟩, (by decide), (by decide)⟩
theorem cb_52 : gg_CB 52 := ⟨(gg_wm 29 (by decide +kernel) rfl), (gg_wm 147 (by decide +kernel) rfl), ⟨(by decide +kernel), (by decide +kernel), (by decide +kernel)⟩, (by decide), (by decide)⟩
theorem cb_53 : gg_CB 53 := ⟨(gg_wm 29 (by decide +kernel) rfl), (gg_wm 382 (by decide +kernel) rfl), ⟨(by decide +kernel), (by decide +kernel), (by decide +kernel)⟩, (by decide), (by decide)⟩
theorem cb_54 : gg_CB 54 := ⟨(gg_wm 29 (by decide +kernel) rfl), (gg_wm 466 (by decide +kernel) rfl), ⟨(by decide +kernel), (by decide +kernel), (by decide +kernel)⟩, (by decide), (by decide)⟩
theorem cb_55 : gg_CB 55 := ⟨(gg_wm 29 (by decide +kernel) rfl), (gg_wm 470 (by decide +kernel) rfl), ⟨(by decide +kernel), (by decide +kernel), (by decide +kernel)⟩, (by decide), (by decide)⟩
theorem cb_56 : gg_CB 56 := ⟨(gg_wm 29 (by decide +kernel) rfl), (gg_wm 742 (by decide +kernel) rfl), ⟨(by decide +kernel), (by decide +kernel), (by decide +kernel)⟩, (by decide), (by decide)⟩
theorem cb_57 : gg_CB 57 := ⟨(gg_wm 24 (by decide +kernel) rfl), (gg_wm 47 (by decide +kernel) rfl), ⟨(by decide +kernel), (by decide +kernel), (by decide +kernel)⟩, (by decide), (by decide)⟩
theorem cb_58 : gg_CB 58 := ⟨(gg_wm 24 (by decide +kernel) rfl), (gg_wm 270 (by decide +kernel) rfl), ⟨(by decide +kernel), (by decide +kernel), (by decide +kernel)⟩, (by decide), (by decide)⟩
theorem cb_59 : gg_CB 59 := ⟨(gg_wm 24 (by decide +kernel) rfl), (gg_wm 274 (by decide +kernel) rfl), ⟨(by decide +kernel), (by decide +kernel), (by decide +kernel)⟩, (by decide), (by decide)⟩
theorem cb_60 : gg_CB 60 := ⟨(gg_wm 24 (by decide +kernel) rfl), (gg_wm 278 (by decide +kernel) rfl), ⟨(by decide +kernel), (by decide +kernel), (by decide +kernel)⟩, (by decide), (by decide)⟩
theorem cb_61 : gg_CB 61 := ⟨(gg_wm 24 (by decide +kernel) rfl), (gg_wm 282 (by decide +kernel) rfl), ⟨(by decide +kernel), (by decide +kernel), (by decide +kernel)⟩, (by decide), (by decide)⟩
theorem cb_62 : gg_CB 62 := ⟨(gg_wm 24 (by decide +kernel) rfl), (gg_wm 290 (by decide +kernel) rfl), ⟨(by decide +kernel), (by decide +kernel), (by decide +kernel)⟩, (by decide), (by decide)⟩
theorem cb_63 : gg_CB 63 := ⟨(gg_wm 24 (by decide +kernel) rfl), (gg_wm 307 (by decide +kernel) rfl), ⟨(by decide +kernel), (by decide +kernel), (by decide +kernel)⟩, (by decide), (by decide)⟩
theorem cb_64 : gg_CB 64 := ⟨(gg_wm 27 (by decide +kernel) rfl), (gg_wm 110 (by decide +kernel) rfl), ⟨(by decide +kernel), (by decide +kernel), (by decide +kernel)⟩, (by decide), (by decide)⟩
theorem cb_65 : gg_CB 65 := ⟨(gg_wm 27 (by decide +kernel) rfl), (gg_wm 370 (by decide +kernel) rfl), ⟨(by decide +kernel), (by decide +kernel), (by decide +kernel)⟩, (by decide), (by decide)⟩
theorem cb_66 : gg_CB 66 := ⟨(gg_wm 27 (by decide +kernel) rfl), (gg_wm 395 (by decide +kernel) rfl), ⟨(by decide +kernel), (by decide +kernel), (by decide +kernel)⟩, (by decide), (by decide)⟩
theorem cb_67 : gg_CB 67 := ⟨(gg_wm 27 (by decide +kernel) rfl), (gg_wm 398 (by decide +kernel) rfl), ⟨(by decide +kernel), (by decide +kernel), (by decide +kernel)⟩, (by decide), (by decide)⟩
theorem cb_68 : gg_CB 68 := ⟨(gg_wm 27 (by decide +kernel) rfl), (gg_wm 402 (by decide +kernel) rfl), ⟨(by decide +kernel), (by decide +kernel), (by decide +kernel)⟩, (by decide), (by decide)⟩
theorem cb_69 : gg_CB 69 := ⟨(gg_wm 27 (by decide +kernel) rfl), (gg_wm 406 (by decide +kernel) rfl), ⟨(by decide +kernel), (by decide +kernel), (by decide +kernel)⟩, (by decide), (by decide)⟩
theorem cb_70 : gg_CB 70 := ⟨(gg_wm 27 (by decide +kernel) rfl), (gg_wm 410 (by decide +kernel) rfl), ⟨(by decide +kernel), (by decide +kernel), (by decide +kernel)⟩, (by decide), (by decide)⟩
theorem cb_71 : gg_CB 71 := ⟨(gg_wm 27 (by decide +kernel) rfl), (gg_wm 414 (by decide +kernel) rfl), ⟨(by decide +kernel), (by decide +kernel), (by decide +kernel)⟩, (by decide), (by decide)⟩
theorem cb_72 : gg_CB 72 := ⟨(gg_wm 27 (by decide +kernel) rfl), (gg_wm 423 (by decide +kernel) rfl), ⟨(by decide +kernel), (by decide +kernel), (by decide +kernel)⟩, (by decide), (by decide)⟩
theorem cb_73 : gg_CB 73 := ⟨(gg_wm 27 (by decide +kernel) rfl), (gg_wm 450 (by decide +kernel) rfl), ⟨(by decide +kernel), (by decide +kernel), (by decide +kernel)⟩, (by decide), (by decide)⟩
theorem cb_74 : gg_CB 74 := ⟨(gg_wm 27 (by decide +kernel) rfl), (gg_wm 474 (by decide +kernel) rfl), ⟨(by decide +kernel), (by decide +kernel), (by decide +kernel)⟩, (by decide), (by decide)⟩
theorem cb_75 : gg_CB 75 := ⟨(gg_wm 27 (by decide +kernel) rfl), (gg_wm 481 (by decide +kernel) rfl), ⟨(by decide +kernel), (by decide +kernel), (by decide +kernel)⟩, (by decide), (by decide)⟩
theorem cb_76 : gg_CB 76 := ⟨(gg_wm 27 (by decide +kernel) rfl), (gg_wm 488 (by decide +kernel) rfl), ⟨(by decide +kernel), (by decide +kernel), (by decide +kernel)⟩, (by decide), (by decide)⟩
theorem cb_77 : gg_CB 77 := ⟨(gg_wm 27 (by decide +kernel) rfl), (gg_wm 491 (by decide +kernel) rfl), ⟨(by decide +kernel), (by decide +kernel), (by decide +kernel)⟩, (by decide), (by decide)⟩
theorem cb_78 : gg_CB 78 := ⟨(gg_wm 27 (by decide +kernel) rfl), (gg_wm 496 (by decide +kernel) rfl), ⟨(by decide +kernel), (by decide +kernel), (by decide +kernel)⟩, (by decide), (by decide)⟩
theorem cb_79 : gg_CB 79 := ⟨(gg_wm 27 (by decide +kernel) rfl), (gg_wm 513 (by decide +kernel) rfl), ⟨(by decide +kernel), (by decide +kernel), (by decide +kernel)⟩, (by decide), (by decide)⟩
theorem cb_80 : gg_CB 80 := ⟨(gg_wm 27 (by decide +kernel) rfl), (gg_wm 545 (by decide +kernel) rfl), ⟨(by decide +kernel), (by decide +kernel), (by decide +kernel)⟩, (by decide), (by decide)⟩
theorem cb_81 : gg_CB 81 := ⟨(gg_wm 27 (by decide +kernel) rfl), (gg_wm 549 (by decide +kernel) rfl), ⟨(by decide +kernel), (by decide +kernel), (by decide +kernel)⟩, (by decide), (by decide)⟩
theorem cb_82 : gg_CB 82 := ⟨(gg_wm 27 (by decide +kernel) rfl), (gg_wm 572 (by decide +kernel) rfl), ⟨(by decide +kernel), (by decide +kernel), (by decide +kernel)⟩, (by decide), (by decide)⟩
theorem cb_83 : gg_CB 83 := ⟨(gg_wm 27 (by decide +kernel) rfl), (gg_wm 734 (by decide +kernel) rfl), ⟨(by decide +kernel), (by decide +kernel), (by decide +kernel)⟩, (by decide), (by decide)⟩
theorem cb_84 : gg_CB 84 := ⟨(gg_wm 27 (by decide +kernel) rfl), (gg_wm 753 (by decide +kernel) rfl), ⟨(by decide +kernel), (by decide +kernel), (by decide +kernel)⟩, (by decide), (by decide)⟩
theorem cb_85 : gg_CB 85 := ⟨(gg_wm 23 (by decide +kernel) rfl), (gg_wm 39 (by decide +kernel) rfl), ⟨(by decide +kernel), (by decide +kernel), (by decide +kernel)⟩, (by decide), (by decide)⟩
theorem cb_86 : gg_CB 86 := ⟨(gg_wm 23 (by decide +kernel) rfl), (gg_wm 266 (by decide +kernel) rfl), ⟨(by decide +kernel), (by decide +kernel), (by decide +kernel)⟩, (by decide), (by decide)⟩
theorem cb_87 : gg_CB 87 := ⟨(gg_wm 23 (by decide +kernel) rfl), (gg_wm 286 (by decide +kernel) rfl), ⟨(by decide +kernel), (by decide +kernel), (by decide +kernel)⟩, (by decide), (by decide)⟩
theorem cb_88 : gg_CB 88 := ⟨(gg_wm 23 (by decide +kernel) rfl), (gg_wm 294 (by decide +kernel) rfl), ⟨(by decide +kernel), (by decide +kernel), (by decide +kernel)⟩, (by decide), (by decide)⟩
theorem cb_89 : gg_CB 89 := ⟨(gg_wm 23 (by decide +kernel) rfl), (gg_wm 318 (by decide +kernel) rfl), ⟨(by decide +kernel), (by decide +kernel), (by decide +kernel)⟩, (by decide), (by decide)⟩
theorem cb_90 : gg_CB 90 := ⟨(gg_wm 23 (by decide +kernel) rfl), (gg_wm 355 (by decide +kernel) rfl), ⟨(by decide +kernel), (by decide +kernel), (by decide +kernel)⟩, (by decide), (by decide)⟩
theorem cb_91 : gg_CB 91 := ⟨(gg_wm 23 (by decide +kernel) rfl), (gg_wm 390 (by decide +kernel) rfl), ⟨(by decide +kernel), (by decide +kernel), (by decide +kernel)⟩, (by decide), (by decide)⟩
theorem cb_92 : gg_CB 92 := ⟨(gg_wm 23 (by decide +kernel) rfl), (gg_wm 426 (by decide +kernel) rfl), ⟨(by decide +kernel), (by decide +kernel), (by decide +kernel)⟩, (by decide), (by decide)⟩
theorem cb_93 : gg_CB 93 := ⟨(gg_wm 23 (by decide +kernel) rfl), (gg_wm 429 (by decide +kernel) rfl), ⟨(by decide +kernel), (by decide +kernel), (by decide +kernel)⟩, (by decide), (by decide)⟩
theorem cb_94 : gg_CB 94 := ⟨(gg_wm 23 (by decide +kernel) rfl), (gg_wm 446 (by decide +kernel) rfl), ⟨(by decide +kernel), (by decide +kernel), (by decide +kernel)⟩, (by decide), (by decide)⟩
theorem cb_95 : gg_CB 95 := ⟨(gg_wm 23 (by decide +kernel) rfl), (gg_wm 454 (by decide +kernel) rfl), ⟨(by decide +kernel), (by decide +kernel), (by decide +kernel)⟩, (by decide), (by decide)⟩
theorem cb_96 : gg_CB 96 := ⟨(gg_wm 23 (by decide +kernel) rfl), (gg_wm 457 (by decide +kernel) rfl), ⟨(by decide +kernel), (by decide +kernel), (by decide +kernel)⟩, (by decide), (by decide)⟩
theorem cb_97 : gg_CB 97 := ⟨(gg_wm 23 (by decide +kernel) rfl), (gg_wm 504 (by decide +kernel) rfl), ⟨(by decide +kernel), (by decide +kernel), (by decide +kernel)⟩, (by decide), (by decide)⟩
theorem cb_98 : gg_CB 98 := ⟨(gg_wm 23 (by decide +kernel) rfl), (gg_wm 509 (by decide +kernel) rfl), ⟨(by decide +kernel), (by decide +kernel), (by decide +kernel)⟩, (by decide), (by decide)⟩
theorem cb_99 : gg_CB 99 := ⟨(gg_wm 23 (by decide +kernel) rfl), (gg_wm 517 (by decide +kernel) rfl), ⟨(by decide +kernel), (by decide +kernel), (by decide +kernel)⟩, (by decide), (by decide)⟩
theorem cb_100 : gg_CB 100 := ⟨(gg_wm 23 (by decide +kernel) rfl), (gg_wm 531 (by decide +kernel) rfl), ⟨(by decide +kernel), (by decide +kernel), (by decide +kernel)⟩, (by decide), (by decide)⟩
theorem cb_101 : gg_CB 101 := ⟨(gg_wm 23 (by decide +kernel) rfl), (gg_wm 541 (by decide +kernel) rfl), ⟨(by decide +kernel), (by decide +kernel), (by decide +kernel)⟩, (by decide), (by decide)⟩
theorem cb_102 : gg_CB 102 := ⟨(gg_wm 23 (by decide +kernel) rfl), (gg_wm 553 (by decide +kernel) rfl), ⟨(by decide +kernel), (by decide +kernel), (by decide +kernel)⟩, (by decide), (by decide)⟩
theorem cb_103 : gg_CB 103 := ⟨(gg_wm 23 (by decide +kernel) rfl), (gg_wm 584 (by decide +kernel) rfl), ⟨(by decide +kernel), (by decide +kernel), (by decide +kernel)⟩, (by decide), (by decide)⟩
theorem cb_104 : gg_CB 104 := ⟨(gg_wm 23 (by decide +kernel) rfl), (gg_wm 589 (by decide +kernel) rfl), ⟨(by decide +kernel), (by decide +kernel), (by decide +kernel)⟩, (by decide), (by decide)⟩
theorem cb_105 : gg_CB 105 := ⟨(gg_wm 23 (by decide +kernel) rfl), (gg_wm 593 (by decide +kernel) rfl), ⟨(by decide +kernel), (by decide +kernel), (by decide +kernel)⟩, (by decide), (by decide)⟩
theorem cb_106 : gg_CB 106 := ⟨(gg_wm 23 (by decide +kernel) rfl), (gg_wm 619 (by decide +kernel) rfl), ⟨(by decide +kernel), (by decide +kernel), (by decide +kernel)⟩, (by decide), (by decide)⟩
theorem cb_107 : gg_CB 107 := ⟨(gg_wm 23 (by decide +kernel) rfl), (gg_wm 627 (by decide +kernel) rfl), ⟨(by decide +kernel), (by decide +kernel), (by decide +kernel)⟩, (by decide), (by decide)⟩
theorem cb_108 : gg_CB 108 := ⟨(gg_wm 23 (by decide +kernel) rfl), (gg_wm 636 (by decide +kernel) rfl), ⟨(by decide +kernel), (by decide +kernel), (by decide +kernel)⟩, (by decide), (by decide)⟩
theorem cb_109 : gg_CB 109 := ⟨(gg_wm 23 (by decide +kernel) rfl), (gg_wm 652 (by decide +kernel) rfl), ⟨(by decide +kernel), (by decide +kernel), (by decide +kernel)⟩, (by decide), (by decide)⟩
theorem cb_110 : gg_CB 110 := ⟨(gg_wm 23 (by decide +kernel) rfl), (gg_wm 660 (by decide +kernel) rfl), ⟨(by decide +kernel), (by decide +kernel), (by decide +kernel)⟩, (by decide), (by decide)⟩
theorem cb_111 : gg_CB 111 := ⟨(gg_wm 23 (by decide +kernel) rfl), (gg_wm 684 (by decide +kernel) rfl), ⟨(by decide +kernel), (by decide +kernel), (by decide +kernel)⟩, (by decide), (by decide)⟩
theorem cb_112 : gg_CB 112 := ⟨(gg_wm 23 (by decide +kernel) rfl), (gg_wm 696 (by decide +kernel) rfl), ⟨(by decide +kernel), (by decide +kernel), (by decide +kernel)⟩, (by decide), (by decide)⟩
theorem cb_113 : gg_CB 113 := ⟨(gg_wm 23 (by decide +kernel) rfl), (gg_wm 707 (by decide +kernel) rfl), ⟨(by decide +kernel), (by decide +kernel), (by decide +kernel)⟩, (by decide), (by decide)⟩
theorem cb_114 : gg_CB 114 := ⟨(gg_wm 23 (by decide +kernel) rfl), (gg_wm 712 (by decide +kernel) rfl), ⟨(by decide +kernel), (by decide +kernel), (by decide +kernel)⟩, (by decide), (by decide)⟩
theorem cb_115 : gg_CB 115 := ⟨(gg_wm 23 (by decide +kernel) rfl), (gg_wm 719 (by decide +kernel) rfl), ⟨(by decide +kernel), (by decide +kernel), (by decide +kernel)⟩, (by decide), (by decide)⟩
theorem cb_116 : gg_CB 116 := ⟨(gg_wm 23 (by decide +kernel) rfl), (gg_wm 723 (by decide +kernel) rfl), ⟨(by decide +kernel), (by decide +kernel), (by decide +kernel)⟩, (by decide), (by decide)⟩
theorem cb_117 : gg_CB 117 := ⟨(gg_wm 23 (by decide +kernel) rfl), (gg_wm 729 (by decide +kernel) rfl), ⟨(by decide +kernel), (by decide +kernel), (by decide +kernel)⟩, (by decide), (by decide)⟩
theorem cb_118 : gg_CB 118 := ⟨(gg_wm 23 (by decide +kernel) rfl), (gg_wm 738 (by decide +kernel) rfl), ⟨(by decide +kernel), (by decide +kernel), (by decide +kernel)⟩, (by decide), (by decide)⟩
theorem cb_119 : gg_CB 119 := ⟨(gg_wm 23 (by decide +kernel) rfl), (gg_wm 748 (by decide +kernel) rfl), ⟨(by decide +kernel), (by decide +kernel), (by decide +kernel)⟩, (by decide), (by decide)⟩
theorem cb_120 : gg_CB 120 := ⟨(gg_wm 33 (by decide +kernel) rfl), (gg_wm 758 (by decide +kernel) rfl), ⟨(by decide +kernel), (by decide +kernel), (by decide +kernel)⟩, (by decide), (by decide)⟩
theorem cb_121 : gg_CB 121 := ⟨(gg_wm 33 (by decide +kernel) rfl), (gg_wm 842 (by decide +kernel) rfl), ⟨(by decide +kernel), (by decide +kernel), (by decide +kernel)⟩, (by decide), (by decide)⟩
theorem cb_122 : gg_CB 122 := ⟨(gg_wm 33 (by decide +kernel) rfl), (gg_wm 846 (by decide +kernel) rfl), ⟨(by decide +kernel), (by decide +kernel), (by decide +kernel)⟩, (by decide), (by decide)⟩
theorem cb_123 : gg_CB 123 := ⟨(gg_wm 33 (by decide +kernel) rfl), (gg_wm 851 (by decide +kernel) rfl), ⟨(by decide +kernel), (by decide +kernel), (by decide +kernel)⟩, (by decide), (by decide)⟩
theorem cb_124 : gg_CB 124 := ⟨(gg_wm 33 (by decide +kernel) rfl), (gg_wm 855 (by decide +kernel) rfl), ⟨(by decide +kernel), (by decide +kernel), (by decide +kernel)⟩, (by decide), (by decide)⟩
theorem cb_125 : gg_CB 125 := ⟨(gg_wm 33 (by decide +kernel) rfl), (gg_wm 859 (by decide +kernel) rfl), ⟨(by decide +kernel), (by decide +kernel), (by decide +kernel)⟩, (by decide), (by decide)⟩
theorem cb_126 : gg_CB 126 := ⟨(gg_wm 33 (by decide +kernel) rfl), (gg_wm 863 (by decide +kernel) rfl), ⟨(by decide +kernel), (by decide +kernel), (by decide +kernel)⟩, (by decide), (by decide)⟩
theorem cb_127 : gg_CB 127 := ⟨(gg_wm 33 (by decide +kernel) rfl), (gg_wm 868 (by decide +kernel) rfl), ⟨(by decide +kernel), (by decide +kernel), (by decide +kernel)⟩, (by decide), (by decide)⟩
theorem cb_128 : gg_CB 128 := ⟨(gg_wm 33 (by decide +kernel) rfl), (gg_wm 872 (by decide +kernel) rfl), ⟨(by decide +kernel), (by decide +kernel), (by decide +kernel)⟩, (by decide), (by decide)⟩
theorem cb_129 : gg_CB 129 := ⟨(gg_wm 33 (by decide +kernel) rfl), (gg_wm 876 (by decide +kernel) rfl), ⟨(by decide +kernel), (by decide +kernel), (by decide +kernel)⟩, (by decide), (by decide)⟩
theorem cb_130 : gg_CB 130 := ⟨(gg_wm 33 (by decide +kernel) rfl), (gg_wm 880 (by decide +kernel) rfl), ⟨(by decide +kernel), (by decide +kernel), (by decide +kernel)⟩, (by decide), (by decide)⟩
theorem cb_131 : gg_CB 131 := ⟨(gg_wm 33 (by decide +kernel) rfl), (gg_wm 885 (by decide +kernel) rfl), ⟨(by decide +kernel), (by decide +kernel), (by decide +kernel)⟩, (by decide), (by decide)⟩
theorem cb_132 : gg_CB 132 := ⟨(gg_wm 33 (by decide +kernel) rfl), (gg_wm 890 (by decide +kernel) rfl), ⟨(by decide +kernel), (by decide +kernel), (by decide +kernel)⟩, (by decide), (by decide)⟩
theorem cb_133 : gg_CB 133 := ⟨(gg_wm 33 (by decide +kernel) rfl), (gg_wm 894 (by decide +kernel) rfl), ⟨(by decide +kernel), (by decide +kernel), (by decide +kernel)⟩, (by decide), (by decide)⟩
theorem cb_134 : gg_CB 134 := ⟨(gg_wm 33 (by decide +kernel) rfl), (gg_wm 898 (by decide +kernel) rfl), ⟨(by decide +kernel), (by decide +kernel), (by decide +kernel)⟩, (by decide), (by decide)⟩
theorem cb_135 : gg_CB 135 := ⟨(gg_wm 33 (by decide +kernel) rfl), (gg_wm 902 (by decide +kernel) rfl), ⟨(by decide +kernel), (by decide +kernel), (by decide +kernel)⟩, (by decide), (by decide)⟩
theorem cb_136 : gg_CB 136 := ⟨(gg_wm 33 (by decide +kernel) rfl), (gg_wm 905 (by decide +kernel) rfl), ⟨(by decide +kernel), (by decide +kernel), (by decide +kernel)⟩, (by decide), (by decide)⟩
theorem cb_137 : gg_CB 137 := ⟨(gg_wm 33 (by decide +kernel) rfl), (gg_wm 909 (by decide +kernel) rfl), ⟨(by decide +kernel), (by decide +kernel), (by decide +kernel)⟩, (by decide), (by decide)⟩
theorem cb_138 : gg_CB 138 := ⟨(gg_wm 33 (by decide +kernel) rfl), (gg_wm 913 (by decide +kernel) rfl), ⟨(by decide +kernel), (by decide +kernel), (by decide +kernel)⟩, (by decide), (by decide)⟩
theorem cb_139 : gg_CB 139 := ⟨(gg_wm 33 (by decide +kernel) rfl), (gg_wm 917 (by decide +kernel) rfl), ⟨(by decide +kernel), (by decide +kernel), (by decide +kernel)⟩, (by decide), (by decide)⟩
theorem cb_140 : gg_CB 140 := ⟨(gg_wm 33 (by decide +kernel) rfl), (gg_wm 921 (by decide +kernel) rfl), ⟨(by decide +kernel), (by decide +kernel), (by decide +kernel)⟩, (by decide), (by decide)⟩
theorem cb_141 : gg_CB 141 := ⟨(gg_wm 33 (by decide +kernel) rfl), (gg_wm 926 (by decide +kernel) rfl), ⟨(by decide +kernel), (by decide +kernel), (by decide +kernel)⟩, (by decide), (by decide)⟩
theorem cb_142 : gg_CB 142 := ⟨(gg_wm 33 (by decide +kernel) rfl), (gg_wm 930 (by decide +kernel) rfl), ⟨(by decide +kernel), (by decide +kernel), (by decide +kernel)⟩, (by decide), (by decide)⟩
theorem cb_143 : gg_CB 143 := ⟨(gg_wm 33 (by decide +kernel) rfl), (gg_wm 934 (by decide +kernel) rfl), ⟨(by decide +kernel), (by decide +kernel), (by decide +kernel)⟩, (by decide), (by decide)⟩
theorem cb_144 : gg_CB 144 := ⟨(gg_wm 33 (by decide +kernel) rfl), (gg_wm 938 (by decide +kernel) rfl), ⟨(by decide +kernel), (by decide +kernel), (by decide +kernel)⟩, (by decide), (by decide)⟩
theorem cb_145 : gg_CB 145 := ⟨(gg_wm 33 (by decide +kernel) rfl), (gg_wm 942 (by decide +kernel) rfl), ⟨(by decide +kernel), (by decide +kernel), (by decide +kernel)⟩, (by decide), (by decide)⟩
theorem cb_146 : gg_CB 146 := ⟨(gg_wm 33 (by decide +kernel) rfl), (gg_wm 946 (by decide +kernel) rfl), ⟨(by decide +kernel), (by decide +kernel), (by decide +kernel)⟩, (by decide), (by decide)⟩
theorem cb_147 : gg_CB 147 := ⟨(gg_wm 33 (by decide +kernel) rfl), (gg_wm 949 (by decide +kernel) rfl), ⟨(by decide +kernel), (by decide +kernel), (by decide +kernel)⟩, (by decide), (by decide)⟩
theorem cb_148 : gg_CB 148 := ⟨(gg_wm 33 (by decide +kernel) rfl), (gg_wm 953 (by decide +kernel) rfl), ⟨(by decide +kernel), (by decide +kernel), (by decide +kernel)⟩, (by decide), (by decide)⟩
theorem cb_149 : gg_CB 149 := ⟨(gg_wm 33 (by decide +kernel) rfl), (gg_wm 957 (by decide +kernel) rfl), ⟨(by decide +kernel), (by decide +kernel), (by decide +kernel)⟩, (by decide), (by decide)⟩
theorem cb_150 : gg_CB 150 := ⟨(gg_wm 33 (by decide +kernel) rfl), (gg_wm 961 (by decide +kernel) rfl), ⟨(by decide +kernel), (by decide +kernel), (by decide +kernel)⟩, (by decide), (by decide)⟩
theorem cb_151 : gg_CB 151 := ⟨(gg_wm 33 (by decide +kernel) rfl), (gg_wm 965 (by decide +kernel) rfl), ⟨(by decide +kernel), (by decide +kernel), (by decide +kernel)⟩, (by decide), (by decide)⟩
theorem cb_152 : gg_CB 152 := ⟨(gg_wm 33 (by decide +kernel) rfl), (gg_wm 969 (by decide +kernel) rfl), ⟨(by decide +kernel), (by decide +kernel), (by decide +kernel)⟩, (by decide), (by decide)⟩
theorem cb_153 : gg_CB 153 := ⟨(gg_wm 33 (by decide +kernel) rfl), (gg_wm 973 (by decide +kernel) rfl), ⟨(by decide +kernel), (by decide +kernel), (by decide +kernel)⟩, (by decide), (by decide)⟩
theorem cb_154 : gg_CB 154 := ⟨(gg_wm 33 (by decide +kernel) rfl), (gg_wm 978 (by decide +kernel) rfl), ⟨(by decide +kernel), (by decide +kernel), (by decide +kernel)⟩, (by decide), (by decide)⟩
theorem cb_155 : gg_CB 155 := ⟨(gg_wm 33 (by decide +kernel) rfl), (gg_wm 982 (by decide +kernel) rfl), ⟨(by decide +kernel), (by decide +kernel), (by decide +kernel)⟩, (by decide), (by decide)⟩
theorem cb_156 : gg_CB 156 := ⟨(gg_wm 33 (by decide +kernel) rfl), (gg_wm 986 (by decide +kernel) rfl), ⟨(by decide +kernel), (by decide +kernel), (by decide +kernel)⟩, (by decide), (by decide)⟩
theorem cb_157 : gg_CB 157 := ⟨(gg_wm 33 (by decide +kernel) rfl), (gg_wm 990 (by decide +kernel) rfl), ⟨(by decide +kernel), (by decide +kernel), (by decide +kernel)⟩, (by decide), (by decide)⟩
theorem cb_158 : gg_CB 158 := ⟨(gg_wm 33 (by decide +kernel) rfl), (gg_wm 994 (by decide +kernel) rfl), ⟨(by decide +kernel), (by decide +kernel), (by decide +kernel)⟩, (by decide), (by decide)⟩
theorem cb_159 : gg_CB 159 := ⟨(gg_wm 33 (by decide +kernel) rfl), (gg_wm 1000 (by decide +kernel) rfl), ⟨(by decide +kernel), (by decide +kernel), (by decide +kernel)⟩, (by decide), (by decide)⟩
theorem cb_160 : gg_CB 160 := ⟨(gg_wm 33 (by decide +kernel) rfl), (gg_wm 1004 (by decide +kernel) rfl), ⟨(by decide +kernel), (by decide +kernel), (by decide +kernel)⟩, (by decide), (by decide)⟩
theorem cb_161 : gg_CB 161 := ⟨(gg_wm 33 (by decide +kernel) rfl), (gg_wm 1008 (by decide +kernel) rfl), ⟨(by decide +kernel), (by decide +kernel), (by decide +kernel)⟩, (by decide), (by decide)⟩
theorem cb_162 : gg_CB 162 := ⟨(gg_wm 33 (by decide +kernel) rfl), (gg_wm 1015 (by decide +kernel) rfl), ⟨(by decide +kernel), (by decide +kernel), (by decide +kernel)⟩, (by decide), (by decide)⟩
theorem cb_163 : gg_CB 163 := ⟨(gg_wm 33 (by decide +kernel) rfl), (gg_wm 1019 (by decide +kernel) rfl), ⟨(by decide +kernel), (by decide +kernel), (by decide +kernel)⟩, (by decide), (by decide)⟩
theorem cb_164 : gg_CB 164 := ⟨(gg_wm 33 (by decide +kernel) rfl), (gg_wm 1023 (by decide +kernel) rfl), ⟨(by decide +kernel), (by decide +kernel), (by decide +kernel)⟩, (by decide), (by decide)⟩
theorem cb_165 : gg_CB 165 := ⟨(gg_wm 34 (by decide +kernel) rfl), (gg_wm 577 (by decide +kernel) rfl), ⟨(by decide +kernel), (by decide +kernel), (by decide +kernel)⟩, (by decide), (by decide)⟩
theorem lk_9_9 : gg_CIN "GutterGardens" 9 57 := ⟨⟨"GutterGardens", (by decide +kernel)⟩, (gg_wm 46 (by decide +kernel) rfl), (by decide +kernel), (by decide +kernel), cb_57⟩
theorem lk_9_18 : gg_CIN "GutterGardens" 18 30 := ⟨⟨"GutterGardens", (by decide +kernel)⟩, (gg_wm 60 (by decide +kernel) rfl), (by decide +kernel), (by decide +kernel), cb_30⟩
theorem lk_9_25 : gg_CIN "GutterGardens" 25 37 := ⟨⟨"GutterGardens", (by decide +kernel)⟩, (gg_wm 66 (by decide +kernel) rfl), (by decide +kernel), (by decide +kernel), cb_37⟩
theorem lk_9_32 : gg_CIN "GutterGardens" 32 64 := ⟨⟨"GutterGardens", (by decide +kernel)⟩, (gg_wm 109 (by decide +kernel) rfl), (by decide +kernel), (by decide +kernel), cb_64⟩
theorem lk_9_39 : gg_CIN "GutterGardens" 39 1 := ⟨⟨"GutterGardens", (by decide +kernel)⟩, (gg_wm 140 (by decide +kernel) rfl), (by decide +kernel), (by decide +kernel), cb_1⟩
theorem lk_9_46 : gg_CI "GutterGardens" 46 16 := ⟨(gg_wm 178 (by decide +kernel) rfl), (gg_wm 179 (by decide +kernel) rfl), (by decide +kernel), (by decide +kernel), cb_16⟩
theorem lk_9_55 : gg_CIN "GutterGardens" 55 6 := ⟨⟨"GutterGardens", (by decide +kernel)⟩, (gg_wm 208 (by decide +kernel) rfl), (by decide +kernel), (by decide +kernel), cb_6⟩
theorem lk_9_62 : gg_CI "GutterGardens" 62 52 := ⟨(gg_wm 234 (by decide +kernel) rfl), (gg_wm 146 (by decide +kernel) rfl), (by decide +kernel), (by decide +kernel), cb_52⟩
theorem lk_9_73 : gg_CV "GutterGardens" 73 58 := ⟨(gg_wm 267 (by decide +kernel) rfl), (gg_wm 268 (by decide +kernel) rfl), (gg_wm 269 (by decide +kernel) rfl), cb_58⟩
theorem lk_9_77 : gg_CV "GutterGardens" 77 59 := ⟨(gg_wm 271 (by decide +kernel) rfl), (gg_wm 272 (by decide +kernel) rfl), (gg_wm 273 (by decide +kernel) rfl), cb_59⟩
theorem lk_9_81 : gg_CV "GutterGardens" 81 61 := ⟨(gg_wm 279 (by decide +kernel) rfl), (gg_wm 280 (by decide +kernel) rfl), (gg_wm 281 (by decide +kernel) rfl), cb_61⟩
theorem lk_9_85 : gg_CV "GutterGardens" 85 62 := ⟨(gg_wm 287 (by decide +kernel) rfl), (gg_wm 288 (by decide +kernel) rfl), (gg_wm 289 (by decide +kernel) rfl), cb_62⟩
theorem lk_9_88 : gg_CV "GutterGardens" 88 31 := ⟨(gg_wm 295 (by decide +kernel) rfl), (gg_wm 296 (by decide +kernel) rfl), (gg_wm 297 (by decide +kernel) rfl), cb_31⟩
theorem lk_9_92 : gg_CV "GutterGardens" 92 36 := ⟨(gg_wm 356 (by decide +kernel) rfl), (gg_wm 357 (by decide +kernel) rfl), (gg_wm 358 (by decide +kernel) rfl), cb_36⟩
theorem lk_9_96 : gg_CV "GutterGardens" 96 45 := ⟨(gg_wm 360 (by decide +kernel) rfl), (gg_wm 361 (by decide +kernel) rfl), (gg_wm 362 (by decide +kernel) rfl), cb_45⟩
theorem lk_9_100 : gg_CV "GutterGardens" 100 65 := ⟨(gg_wm 367 (by decide +kernel) rfl), (gg_wm 368 (by decide +kernel) rfl), (gg_wm 369 (by decide +kernel) rfl), cb_65⟩
theorem lk_9_103 : gg_CV "GutterGardens" 103 2 := ⟨(gg_wm 375 (by decide +kernel) rfl), (gg_wm 376 (by decide +kernel) rfl), (gg_wm 377 (by decide +kernel) rfl), cb_2⟩
theorem lk_9_106 : gg_CV "GutterGardens" 106 53 := ⟨(gg_wm 379 (by decide +kernel) rfl), (gg_wm 380 (by decide +kernel) rfl), (gg_wm 381 (by decide +kernel) rfl), cb_53⟩
theorem lk_9_109 : gg_CV "GutterGardens" 109 47 := ⟨(gg_wm 383 (by decide +kernel) rfl), (gg_wm 384 (by decide +kernel) rfl), (gg_wm 385 (by decide +kernel) rfl), cb_47⟩
theorem lk_9_112 : gg_CV "GutterGardens" 112 41 := ⟨(gg_wm 391 (by decide +kernel) rfl), (gg_wm 332 (by decide +kernel) rfl), (gg_wm 333 (by decide +kernel) rfl), cb_41⟩
theorem lk_9_115 : gg_CV "GutterGardens" 115 66 := ⟨(gg_wm 392 (by decide +kernel) rfl), (gg_wm 393 (by decide +kernel) rfl), (gg_wm 394 (by decide +kernel) rfl), cb_66⟩
theorem lk_9_119 : gg_CV "GutterGardens" 119 68 := ⟨(gg_wm 399 (by decide +kernel) rfl), (gg_wm 400 (by decide +kernel) rfl), (gg_wm 401 (by decide +kernel) rfl), cb_68⟩
theorem lk_9_122 : gg_CV "GutterGardens" 122 69 := ⟨(gg_wm 403 (by decide +kernel) rfl), (gg_wm 404 (by decide +kernel) rfl), (gg_wm 405 (by decide +kernel) rfl), cb_69⟩
theorem lk_9_125 : gg_CV "GutterGardens" 125 70 := ⟨(gg_wm 407 (by decide +kernel) rfl), (gg_wm 408 (by decide +kernel) rfl), (gg_wm 409 (by decide +kernel) rfl), cb_70⟩
theorem lk_9_128 : gg_CV "GutterGardens" 128 71 := ⟨(gg_wm 411 (by decide +kernel) rfl), (gg_wm 412 (by decide +kernel) rfl), (gg_wm 413 (by decide +kernel) rfl), cb_71⟩
theorem lk_9_132 : gg_CV "GutterGardens" 132 72 := ⟨(gg_wm 420 (by decide +kernel) rfl), (gg_wm 421 (by decide +kernel) rfl), (gg_wm 422 (by decide +kernel) rfl), cb_72⟩
theorem lk_9_135 : gg_CS "GutterGardens" 135 92 := ⟨(gg_wm 424 (by decide +kernel) rfl), (gg_wm 425 (by decide +kernel) rfl), cb_92⟩
theorem lk_9_139 : gg_CV "GutterGardens" 139 49 := ⟨(gg_wm 430 (by decide +kernel) rfl), (gg_wm 431 (by decide +kernel) rfl), (gg_wm 432 (by decide +kernel) rfl), cb_49⟩
theorem lk_9_142 : gg_CV "GutterGardens" 142 50 := ⟨(gg_wm 434 (by decide +kernel) rfl), (gg_wm 435 (by decide +kernel) rfl), (gg_wm 436 (by decide +kernel) rfl), cb_50⟩
theorem lk_9_145 : gg_CV "GutterGardens" 145 48 := ⟨(gg_wm 438 (by decide +kernel) rfl), (gg_wm 417 (by decide +kernel) rfl), (gg_wm 418 (by decide +kernel) rfl), cb_48⟩
theorem lk_9_148 : gg_CV "GutterGardens" 148 51 := ⟨(gg_wm 439 (by decide +kernel) rfl), (gg_wm 440 (by decide +kernel) rfl), (gg_wm 441 (by decide +kernel) rfl), cb_51⟩
theorem lk_9_151 : gg_CS "GutterGardens" 151 93 := ⟨(gg_wm 427 (by decide +kernel) rfl), (gg_wm 428 (by decide +kernel) rfl), cb_93⟩
theorem lk_9_154 : gg_CV "GutterGardens" 154 73 := ⟨(gg_wm 447 (by decide +kernel) rfl), (gg_wm 448 (by decide +kernel) rfl), (gg_wm 449 (by decide +kernel) rfl), cb_73⟩
theorem lk_9_157 : gg_CS "GutterGardens" 157 96 := ⟨(gg_wm 455 (by decide +kernel) rfl), (gg_wm 456 (by decide +kernel) rfl), cb_96⟩
theorem lk_9_160 : gg_CV "GutterGardens" 160 3 := ⟨(gg_wm 459 (by decide +kernel) rfl), (gg_wm 460 (by decide +kernel) rfl), (gg_wm 461 (by decide +kernel) rfl), cb_3⟩
theorem lk_9_164 : gg_CV "GutterGardens" 164 75 := ⟨(gg_wm 478 (by decide +kernel) rfl), (gg_wm 479 (by decide +kernel) rfl), (gg_wm 480 (by decide +kernel) rfl), cb_75⟩
theorem lk_9_168 : gg_CS "GutterGardens" 168 89 := ⟨(gg_wm 458 (by decide +kernel) rfl), (gg_wm 317 (by decide +kernel) rfl), cb_89⟩
theorem lk_9_172 : gg_CV "GutterGardens" 172 76 := ⟨(gg_wm 505 (by decide +kernel) rfl), (gg_wm 486 (by decide +kernel) rfl), (gg_wm 487 (by decide +kernel) rfl), cb_76⟩
theorem lk_9_176 : gg_CV "GutterGardens" 176 79 := ⟨(gg_wm 510 (by decide +kernel) rfl), (gg_wm 511 (by decide +kernel) rfl), (gg_wm 512 (by decide +kernel) rfl), cb_79⟩
theorem lk_9_179 : gg_CV "GutterGardens" 179 4 := ⟨(gg_wm 518 (by decide +kernel) rfl), (gg_wm 519 (by decide +kernel) rfl), (gg_wm 520 (by decide +kernel) rfl), cb_4⟩
theorem lk_9_180 : gg_CV "GutterGardens" 180 5 := ⟨(gg_wm 522 (by decide +kernel) rfl), (gg_wm 523 (by decide +kernel) rfl), (gg_wm 524 (by decide +kernel) rfl), cb_5⟩
theorem lk_9_183 : gg_CV "GutterGardens" 183 17 := ⟨(gg_wm 532 (by decide +kernel) rfl), (gg_wm 533 (by decide +kernel) rfl), (gg_wm 534 (by decide +kernel) rfl), cb_17⟩
theorem lk_9_187 : gg_CV "GutterGardens" 187 80 := ⟨(gg_wm 542 (by decide +kernel) rfl), (gg_wm 543 (by decide +kernel) rfl), (gg_wm 544 (by decide +kernel) rfl), cb_80⟩
theorem lk_9_190 : gg_CV "GutterGardens" 190 81 := ⟨(gg_wm 546 (by decide +kernel) rfl), (gg_wm 547 (by decide +kernel) rfl), (gg_wm 548 (by decide +kernel) rfl), cb_81⟩
theorem lk_9_193 : gg_CV "GutterGardens" 193 18 := ⟨(gg_wm 554 (by decide +kernel) rfl), (gg_wm 555 (by decide +kernel) rfl), (gg_wm 556 (by decide +kernel) rfl), cb_18⟩
theorem lk_9_196 : gg_CV "GutterGardens" 196 20 := ⟨(gg_wm 585 (by decide +kernel) rfl), (gg_wm 565 (by decide +kernel) rfl), (gg_wm 566 (by decide +kernel) rfl), cb_20⟩
theorem lk_9_200 : gg_CV "GutterGardens" 200 105 := ⟨(gg_wm 590 (by decide +kernel) rfl), (gg_wm 592 (by decide +kernel) rfl), (gg_wm 6 (by decide +kernel) rfl), cb_105⟩
theorem lk_9_203 : gg_CV "GutterGardens" 203 21 := ⟨(gg_wm 594 (by decide +kernel) rfl), (gg_wm 595 (by decide +kernel) rfl), (gg_wm 596 (by decide +kernel) rfl), cb_21⟩
theorem lk_9_207 : gg_CV "GutterGardens" 207 25 := ⟨(gg_wm 612 (by decide +kernel) rfl), (gg_wm 613 (by decide +kernel) rfl), (gg_wm 614 (by decide +kernel) rfl), cb_25⟩
theorem lk_9_210 : gg_CV "GutterGardens" 210 26 := ⟨(gg_wm 620 (by decide +kernel) rfl), (gg_wm 621 (by decide +kernel) rfl), (gg_wm 622 (by decide +kernel) rfl), cb_26⟩
theorem lk_9_213 : gg_CV "GutterGardens" 213 27 := ⟨(gg_wm 628 (by decide +kernel) rfl), (gg_wm 629 (by decide +kernel) rfl), (gg_wm 630 (by decide +kernel) rfl), cb_27⟩
theorem lk_9_216 : gg_CV "GutterGardens" 216 7 := ⟨(gg_wm 637 (by decide +kernel) rfl), (gg_wm 638 (by decide +kernel) rfl), (gg_wm 639 (by decide +kernel) rfl), cb_7⟩
theorem lk_9_220 : gg_CV "GutterGardens" 220 8 := ⟨(gg_wm 641 (by decide +kernel) rfl), (gg_wm 642 (by decide +kernel) rfl), (gg_wm 643 (by decide +kernel) rfl), cb_8⟩
theorem lk_9_224 : gg_CV "GutterGardens" 224 9 := ⟨(gg_wm 645 (by decide +kernel) rfl), (gg_wm 646 (by decide +kernel) rfl), (gg_wm 647 (by decide +kernel) rfl), cb_9⟩
theorem lk_9_225 : gg_CV "GutterGardens" 225 10 := ⟨(gg_wm 653 (by decide +kernel) rfl), (gg_wm 654 (by decide +kernel) rfl), (gg_wm 655 (by decide +kernel) rfl), cb_10⟩
theorem lk_9_226 : gg_CV "GutterGardens" 226 11 := ⟨(gg_wm 661 (by decide +kernel) rfl), (gg_wm 662 (by decide +kernel) rfl), (gg_wm 663 (by decide +kernel) rfl), cb_11⟩
theorem lk_9_230 : gg_CV "GutterGardens" 230 13 := ⟨(gg_wm 677 (by decide +kernel) rfl), (gg_wm 678 (by decide +kernel) rfl), (gg_wm 679 (by decide +kernel) rfl), cb_13⟩
theorem lk_9_233 : gg_CV "GutterGardens" 233 14 := ⟨(gg_wm 685 (by decide +kernel) rfl), (gg_wm 686 (by decide +kernel) rfl), (gg_wm 687 (by decide +kernel) rfl), cb_14⟩
theorem lk_9_236 : gg_CV "GutterGardens" 236 15 := ⟨(gg_wm 689 (by decide +kernel) rfl), (gg_wm 690 (by decide +kernel) rfl), (gg_wm 691 (by decide +kernel) rfl), cb_15⟩
theorem lk_9_243 : gg_CV "GutterGardens" 243 29 := ⟨(gg_wm 699 (by decide +kernel) rfl), (gg_wm 700 (by decide +kernel) rfl), (gg_wm 701 (by decide +kernel) rfl), cb_29⟩
theorem lk_9_249 : gg_CS "GutterGardens" 249 113 := ⟨(gg_wm 709 (by decide +kernel) rfl), (gg_wm 706 (by decide +kernel) rfl), cb_113⟩
theorem lk_9_253 : gg_CS "GutterGardens" 253 114 := ⟨(gg_wm 710 (by decide +kernel) rfl), (gg_wm 711 (by decide +kernel) rfl), cb_114⟩
theorem lk_9_266 : gg_CV "GutterGardens" 266 54 := ⟨(gg_wm 730 (by decide +kernel) rfl), (gg_wm 464 (by decide +kernel) rfl), (gg_wm 465 (by decide +kernel) rfl), cb_54⟩
theorem lk_9_270 : gg_CV "GutterGardens" 270 83 := ⟨(gg_wm 731 (by decide +kernel) rfl), (gg_wm 732 (by decide +kernel) rfl), (gg_wm 733 (by decide +kernel) rfl), cb_83⟩
theorem lk_9_273 : gg_CV "GutterGardens" 273 56 := ⟨(gg_wm 739 (by decide +kernel) rfl), (gg_wm 740 (by decide +kernel) rfl), (gg_wm 741 (by decide +kernel) rfl), cb_56⟩
theorem lk_9_276 : gg_CV "GutterGardens" 276 55 := ⟨(gg_wm 743 (by decide +kernel) rfl), (gg_wm 468 (by decide +kernel) rfl), (gg_wm 469 (by decide +kernel) rfl), cb_55⟩
theorem lk_9_280 : gg_CV "GutterGardens" 280 74 := ⟨(gg_wm 744 (by decide +kernel) rfl), (gg_wm 472 (by decide +kernel) rfl), (gg_wm 473 (by decide +kernel) rfl), cb_74⟩
theorem lk_9_282 : gg_CV "GutterGardens" 282 82 := ⟨(gg_wm 749 (by decide +kernel) rfl), (gg_wm 570 (by decide +kernel) rfl), (gg_wm 571 (by decide +kernel) rfl), cb_82⟩
theorem lk_9_286 : gg_CV "GutterGardens" 286 84 := ⟨(gg_wm 750 (by decide +kernel) rfl), (gg_wm 751 (by decide +kernel) rfl), (gg_wm 752 (by decide +kernel) rfl), cb_84⟩
theorem lk_1_11 : gg_CI "GutterGardens$Acts" 11 52 := ⟨(gg_wm 145 (by decide +kernel) rfl), (gg_wm 146 (by decide +kernel) rfl), (by decide +kernel), (by decide +kernel), cb_52⟩
theorem lk_1_27 : gg_CV "GutterGardens$Acts" 27 54 := ⟨(gg_wm 463 (by decide +kernel) rfl), (gg_wm 464 (by decide +kernel) rfl), (gg_wm 465 (by decide +kernel) rfl), cb_54⟩
theorem lk_1_37 : gg_CV "GutterGardens$Acts" 37 55 := ⟨(gg_wm 526 (by decide +kernel) rfl), (gg_wm 468 (by decide +kernel) rfl), (gg_wm 469 (by decide +kernel) rfl), cb_55⟩
theorem lk_1_41 : gg_CV "GutterGardens$Acts" 41 74 := ⟨(gg_wm 527 (by decide +kernel) rfl), (gg_wm 472 (by decide +kernel) rfl), (gg_wm 473 (by decide +kernel) rfl), cb_74⟩
theorem lk_2_34 : gg_CV "GutterGardens$Gauges" 34 19 := ⟨(gg_wm 665 (by decide +kernel) rfl), (gg_wm 559 (by decide +kernel) rfl), (gg_wm 560 (by decide +kernel) rfl), cb_19⟩
theorem lk_2_40 : gg_CV "GutterGardens$Gauges" 40 12 := ⟨(gg_wm 666 (by decide +kernel) rfl), (gg_wm 668 (by decide +kernel) rfl), (gg_wm 8 (by decide +kernel) rfl), cb_12⟩
theorem lk_2_44 : gg_CV "GutterGardens$Gauges" 44 17 := ⟨(gg_wm 670 (by decide +kernel) rfl), (gg_wm 533 (by decide +kernel) rfl), (gg_wm 534 (by decide +kernel) rfl), cb_17⟩
theorem lk_2_48 : gg_CV "GutterGardens$Gauges" 48 81 := ⟨(gg_wm 671 (by decide +kernel) rfl), (gg_wm 547 (by decide +kernel) rfl), (gg_wm 548 (by decide +kernel) rfl), cb_81⟩
theorem lk_2_53 : gg_CV "GutterGardens$Gauges" 53 28 := ⟨(gg_wm 672 (by decide +kernel) rfl), (gg_wm 673 (by decide +kernel) rfl), (gg_wm 674 (by decide +kernel) rfl), cb_28⟩
theorem lk_3_11 : gg_CIN "GutterGardens$Outlook" 11 64 := ⟨⟨"GutterGardens", (by decide +kernel)⟩, (gg_wm 109 (by decide +kernel) rfl), (by decide +kernel), (by decide +kernel), cb_64⟩
theorem lk_3_20 : gg_CI "GutterGardens$Outlook" 20 52 := ⟨(gg_wm 185 (by decide +kernel) rfl), (gg_wm 146 (by decide +kernel) rfl), (by decide +kernel), (by decide +kernel), cb_52⟩
theorem lk_3_41 : gg_CV "GutterGardens$Outlook" 41 74 := ⟨(gg_wm 536 (by decide +kernel) rfl), (gg_wm 472 (by decide +kernel) rfl), (gg_wm 473 (by decide +kernel) rfl), cb_74⟩
theorem lk_3_45 : gg_CV "GutterGardens$Outlook" 45 75 := ⟨(gg_wm 537 (by decide +kernel) rfl), (gg_wm 479 (by decide +kernel) rfl), (gg_wm 480 (by decide +kernel) rfl), cb_75⟩
theorem lk_3_49 : gg_CV "GutterGardens$Outlook" 49 47 := ⟨(gg_wm 562 (by decide +kernel) rfl), (gg_wm 384 (by decide +kernel) rfl), (gg_wm 385 (by decide +kernel) rfl), cb_47⟩
theorem lk_3_55 : gg_CSN "GutterGardens$Outlook" 55 93 := ⟨⟨"GutterGardens", (by decide +kernel)⟩, (gg_wm 428 (by decide +kernel) rfl), cb_93⟩
theorem lk_3_59 : gg_CV "GutterGardens$Outlook" 59 81 := ⟨(gg_wm 676 (by decide +kernel) rfl), (gg_wm 547 (by decide +kernel) rfl), (gg_wm 548 (by decide +kernel) rfl), cb_81⟩
theorem lk_3_62 : gg_CV "GutterGardens$Outlook" 62 17 := ⟨(gg_wm 568 (by decide +kernel) rfl), (gg_wm 533 (by decide +kernel) rfl), (gg_wm 534 (by decide +kernel) rfl), cb_17⟩
theorem lk_3_66 : gg_CV "GutterGardens$Outlook" 66 82 := ⟨(gg_wm 569 (by decide +kernel) rfl), (gg_wm 570 (by decide +kernel) rfl), (gg_wm 571 (by decide +kernel) rfl), cb_82⟩
theorem lk_3_70 : gg_CS "GutterGardens$Outlook" 70 165 := ⟨(gg_wm 575 (by decide +kernel) rfl), (gg_wm 576 (by decide +kernel) rfl), cb_165⟩
theorem lk_3_75 : gg_CV "GutterGardens$Outlook" 75 19 := ⟨(gg_wm 558 (by decide +kernel) rfl), (gg_wm 559 (by decide +kernel) rfl), (gg_wm 560 (by decide +kernel) rfl), cb_19⟩
theorem lk_3_78 : gg_CV "GutterGardens$Outlook" 78 20 := ⟨(gg_wm 564 (by decide +kernel) rfl), (gg_wm 565 (by decide +kernel) rfl), (gg_wm 566 (by decide +kernel) rfl), cb_20⟩
theorem lk_3_82 : gg_CV "GutterGardens$Outlook" 82 69 := ⟨(gg_wm 632 (by decide +kernel) rfl), (gg_wm 404 (by decide +kernel) rfl), (gg_wm 405 (by decide +kernel) rfl), cb_69⟩
theorem lk_3_91 : gg_CV "GutterGardens$Outlook" 91 54 := ⟨(gg_wm 599 (by decide +kernel) rfl), (gg_wm 464 (by decide +kernel) rfl), (gg_wm 465 (by decide +kernel) rfl), cb_54⟩
theorem lk_3_95 : gg_CS "GutterGardens$Outlook" 95 22 := ⟨(gg_wm 600 (by decide +kernel) rfl), (gg_wm 601 (by decide +kernel) rfl), cb_22⟩
theorem lk_3_98 : gg_CS "GutterGardens$Outlook" 98 23 := ⟨(gg_wm 603 (by decide +kernel) rfl), (gg_wm 604 (by decide +kernel) rfl), cb_23⟩
theorem lk_3_102 : gg_CV "GutterGardens$Outlook" 102 24 := ⟨(gg_wm 607 (by decide +kernel) rfl), (gg_wm 609 (by decide +kernel) rfl), (gg_wm 7 (by decide +kernel) rfl), cb_24⟩
theorem lk_3_106 : gg_CV "GutterGardens$Outlook" 106 55 := ⟨(gg_wm 611 (by decide +kernel) rfl), (gg_wm 468 (by decide +kernel) rfl), (gg_wm 469 (by decide +kernel) rfl), cb_55⟩
theorem lk_3_110 : gg_CV "GutterGardens$Outlook" 110 72 := ⟨(gg_wm 703 (by decide +kernel) rfl), (gg_wm 421 (by decide +kernel) rfl), (gg_wm 422 (by decide +kernel) rfl), cb_72⟩
theorem lk_3_113 : gg_CV "GutterGardens$Outlook" 113 71 := ⟨(gg_wm 704 (by decide +kernel) rfl), (gg_wm 412 (by decide +kernel) rfl), (gg_wm 413 (by decide +kernel) rfl), cb_71⟩
theorem lk_3_117 : gg_CSN "GutterGardens$Outlook" 117 113 := ⟨⟨"GutterGardens", (by decide +kernel)⟩, (gg_wm 706 (by decide +kernel) rfl), cb_113⟩
theorem lk_4_11 : gg_CIN "GutterGardens$Reader" 11 37 := ⟨⟨"GutterGardens", (by decide +kernel)⟩, (gg_wm 66 (by decide +kernel) rfl), (by decide +kernel), (by decide +kernel), cb_37⟩
theorem lk_4_32 : gg_CV "GutterGardens$Reader" 32 38 := ⟨(gg_wm 299 (by decide +kernel) rfl), (gg_wm 300 (by decide +kernel) rfl), (gg_wm 301 (by decide +kernel) rfl), cb_38⟩
theorem lk_4_35 : gg_CV "GutterGardens$Reader" 35 61 := ⟨(gg_wm 303 (by decide +kernel) rfl), (gg_wm 280 (by decide +kernel) rfl), (gg_wm 281 (by decide +kernel) rfl), cb_61⟩
theorem lk_4_41 : gg_CV "GutterGardens$Reader" 41 63 := ⟨(gg_wm 304 (by decide +kernel) rfl), (gg_wm 305 (by decide +kernel) rfl), (gg_wm 306 (by decide +kernel) rfl), cb_63⟩
theorem lk_4_45 : gg_CV "GutterGardens$Reader" 45 32 := ⟨(gg_wm 308 (by decide +kernel) rfl), (gg_wm 310 (by decide +kernel) rfl), (gg_wm 1 (by decide +kernel) rfl), cb_32⟩
theorem lk_4_49 : gg_CV "GutterGardens$Reader" 49 33 := ⟨(gg_wm 312 (by decide +kernel) rfl), (gg_wm 314 (by decide +kernel) rfl), (gg_wm 2 (by decide +kernel) rfl), cb_33⟩
theorem lk_4_53 : gg_CV "GutterGardens$Reader" 53 34 := ⟨(gg_wm 323 (by decide +kernel) rfl), (gg_wm 325 (by decide +kernel) rfl), (gg_wm 3 (by decide +kernel) rfl), cb_34⟩
theorem lk_4_56 : gg_CV "GutterGardens$Reader" 56 35 := ⟨(gg_wm 339 (by decide +kernel) rfl), (gg_wm 341 (by decide +kernel) rfl), (gg_wm 4 (by decide +kernel) rfl), cb_35⟩
theorem lk_4_59 : gg_CV "GutterGardens$Reader" 59 43 := ⟨(gg_wm 343 (by decide +kernel) rfl), (gg_wm 344 (by decide +kernel) rfl), (gg_wm 345 (by decide +kernel) rfl), cb_43⟩
theorem lk_4_63 : gg_CV "GutterGardens$Reader" 63 44 := ⟨(gg_wm 347 (by decide +kernel) rfl), (gg_wm 348 (by decide +kernel) rfl), (gg_wm 349 (by decide +kernel) rfl), cb_44⟩
theorem lk_4_66 : gg_CSN "GutterGardens$Reader" 66 89 := ⟨⟨"GutterGardens", (by decide +kernel)⟩, (gg_wm 317 (by decide +kernel) rfl), cb_89⟩
theorem lk_4_70 : gg_CV "GutterGardens$Reader" 70 39 := ⟨(gg_wm 319 (by decide +kernel) rfl), (gg_wm 320 (by decide +kernel) rfl), (gg_wm 321 (by decide +kernel) rfl), cb_39⟩
theorem lk_4_74 : gg_CV "GutterGardens$Reader" 74 40 := ⟨(gg_wm 327 (by decide +kernel) rfl), (gg_wm 328 (by decide +kernel) rfl), (gg_wm 329 (by decide +kernel) rfl), cb_40⟩
theorem lk_4_77 : gg_CV "GutterGardens$Reader" 77 42 := ⟨(gg_wm 335 (by decide +kernel) rfl), (gg_wm 336 (by decide +kernel) rfl), (gg_wm 337 (by decide +kernel) rfl), cb_42⟩
theorem lk_5_31 : gg_CV "GutterGardens$Roofs" 31 41 := ⟨(gg_wm 331 (by decide +kernel) rfl), (gg_wm 332 (by decide +kernel) rfl), (gg_wm 333 (by decide +kernel) rfl), cb_41⟩
theorem lk_5_35 : gg_CV "GutterGardens$Roofs" 35 40 := ⟨(gg_wm 351 (by decide +kernel) rfl), (gg_wm 328 (by decide +kernel) rfl), (gg_wm 329 (by decide +kernel) rfl), cb_40⟩
theorem lk_5_38 : gg_CV "GutterGardens$Roofs" 38 38 := ⟨(gg_wm 364 (by decide +kernel) rfl), (gg_wm 300 (by decide +kernel) rfl), (gg_wm 301 (by decide +kernel) rfl), cb_38⟩
theorem lk_5_41 : gg_CV "GutterGardens$Roofs" 41 39 := ⟨(gg_wm 365 (by decide +kernel) rfl), (gg_wm 320 (by decide +kernel) rfl), (gg_wm 321 (by decide +kernel) rfl), cb_39⟩
theorem lk_5_45 : gg_CV "GutterGardens$Roofs" 45 42 := ⟨(gg_wm 366 (by decide +kernel) rfl), (gg_wm 336 (by decide +kernel) rfl), (gg_wm 337 (by decide +kernel) rfl), cb_42⟩
theorem lk_6_9 : gg_CIN "GutterGardens$Shelf" 9 64 := ⟨⟨"GutterGardens", (by decide +kernel)⟩, (gg_wm 109 (by decide +kernel) rfl), (by decide +kernel), (by decide +kernel), cb_64⟩
theorem lk_6_30 : gg_CV "GutterGardens$Shelf" 30 55 := ⟨(gg_wm 467 (by decide +kernel) rfl), (gg_wm 468 (by decide +kernel) rfl), (gg_wm 469 (by decide +kernel) rfl), cb_55⟩
theorem lk_6_34 : gg_CV "GutterGardens$Shelf" 34 74 := ⟨(gg_wm 471 (by decide +kernel) rfl), (gg_wm 472 (by decide +kernel) rfl), (gg_wm 473 (by decide +kernel) rfl), cb_74⟩
theorem lk_7_19 : gg_CV "GutterGardens$Text" 19 60 := ⟨(gg_wm 275 (by decide +kernel) rfl), (gg_wm 277 (by decide +kernel) rfl), (gg_wm 0 (by decide +kernel) rfl), cb_60⟩
theorem lk_8_37 : gg_CS "GutterGardens$Waters" 37 67 := ⟨(gg_wm 396 (by decide +kernel) rfl), (gg_wm 397 (by decide +kernel) rfl), cb_67⟩
theorem lk_8_41 : gg_CV "GutterGardens$Waters" 41 69 := ⟨(gg_wm 415 (by decide +kernel) rfl), (gg_wm 404 (by decide +kernel) rfl), (gg_wm 405 (by decide +kernel) rfl), cb_69⟩
theorem lk_8_45 : gg_CV "GutterGardens$Waters" 45 48 := ⟨(gg_wm 416 (by decide +kernel) rfl), (gg_wm 417 (by decide +kernel) rfl), (gg_wm 418 (by decide +kernel) rfl), cb_48⟩
theorem lk_8_50 : gg_CV "GutterGardens$Waters" 50 41 := ⟨(gg_wm 482 (by decide +kernel) rfl), (gg_wm 332 (by decide +kernel) rfl), (gg_wm 333 (by decide +kernel) rfl), cb_41⟩
theorem lk_8_53 : gg_CV "GutterGardens$Waters" 53 71 := ⟨(gg_wm 573 (by decide +kernel) rfl), (gg_wm 412 (by decide +kernel) rfl), (gg_wm 413 (by decide +kernel) rfl), cb_71⟩
theorem lk_8_57 : gg_CSN "GutterGardens$Waters" 57 93 := ⟨⟨"GutterGardens", (by decide +kernel)⟩, (gg_wm 428 (by decide +kernel) rfl), cb_93⟩
theorem lk_8_60 : gg_CV "GutterGardens$Waters" 60 46 := ⟨(gg_wm 371 (by decide +kernel) rfl), (gg_wm 372 (by decide +kernel) rfl), (gg_wm 373 (by decide +kernel) rfl), cb_46⟩
theorem lk_8_63 : gg_CS "GutterGardens$Waters" 63 77 := ⟨(gg_wm 489 (by decide +kernel) rfl), (gg_wm 490 (by decide +kernel) rfl), cb_77⟩
theorem lk_8_67 : gg_CV "GutterGardens$Waters" 67 49 := ⟨(gg_wm 483 (by decide +kernel) rfl), (gg_wm 431 (by decide +kernel) rfl), (gg_wm 432 (by decide +kernel) rfl), cb_49⟩
theorem lk_8_76 : gg_CV "GutterGardens$Waters" 76 76 := ⟨(gg_wm 485 (by decide +kernel) rfl), (gg_wm 486 (by decide +kernel) rfl), (gg_wm 487 (by decide +kernel) rfl), cb_76⟩
theorem lk_8_79 : gg_CSN "GutterGardens$Waters" 79 92 := ⟨⟨"GutterGardens", (by decide +kernel)⟩, (gg_wm 425 (by decide +kernel) rfl), cb_92⟩
theorem lk_8_83 : gg_CV "GutterGardens$Waters" 83 78 := ⟨(gg_wm 493 (by decide +kernel) rfl), (gg_wm 495 (by decide +kernel) rfl), (gg_wm 5 (by decide +kernel) rfl), cb_78⟩
theorem lk_8_87 : gg_CV "GutterGardens$Waters" 87 66 := ⟨(gg_wm 497 (by decide +kernel) rfl), (gg_wm 393 (by decide +kernel) rfl), (gg_wm 394 (by decide +kernel) rfl), cb_66⟩
theorem lk_8_90 : gg_CV "GutterGardens$Waters" 90 50 := ⟨(gg_wm 498 (by decide +kernel) rfl), (gg_wm 435 (by decide +kernel) rfl), (gg_wm 436 (by decide +kernel) rfl), cb_50⟩
theorem lk_8_93 : gg_CV "GutterGardens$Waters" 93 51 := ⟨(gg_wm 499 (by decide +kernel) rfl), (gg_wm 440 (by decide +kernel) rfl), (gg_wm 441 (by decide +kernel) rfl), cb_51⟩
theorem lk_0_9 : gg_CI "GutterGardensLaw" 9 85 := ⟨(gg_wm 37 (by decide +kernel) rfl), (gg_wm 38 (by decide +kernel) rfl), (by decide +kernel), (by decide +kernel), cb_85⟩
theorem lk_0_12 : gg_CI "GutterGardensLaw" 12 120 := ⟨(gg_wm 756 (by decide +kernel) rfl), (gg_wm 757 (by decide +kernel) rfl), (by decide +kernel), (by decide +kernel), cb_120⟩
theorem lk_0_15 : gg_CV "GutterGardensLaw" 15 86 := ⟨(gg_wm 263 (by decide +kernel) rfl), (gg_wm 264 (by decide +kernel) rfl), (gg_wm 265 (by decide +kernel) rfl), cb_86⟩
theorem lk_0_19 : gg_CV "GutterGardensLaw" 19 121 := ⟨(gg_wm 839 (by decide +kernel) rfl), (gg_wm 840 (by decide +kernel) rfl), (gg_wm 841 (by decide +kernel) rfl), cb_121⟩
theorem lk_0_20 : gg_CV "GutterGardensLaw" 20 87 := ⟨(gg_wm 283 (by decide +kernel) rfl), (gg_wm 284 (by decide +kernel) rfl), (gg_wm 285 (by decide +kernel) rfl), cb_87⟩
theorem lk_0_24 : gg_CV "GutterGardensLaw" 24 123 := ⟨(gg_wm 848 (by decide +kernel) rfl), (gg_wm 849 (by decide +kernel) rfl), (gg_wm 850 (by decide +kernel) rfl), cb_123⟩
theorem lk_0_25 : gg_CV "GutterGardensLaw" 25 88 := ⟨(gg_wm 291 (by decide +kernel) rfl), (gg_wm 292 (by decide +kernel) rfl), (gg_wm 293 (by decide +kernel) rfl), cb_88⟩
theorem lk_0_28 : gg_CV "GutterGardensLaw" 28 124 := ⟨(gg_wm 852 (by decide +kernel) rfl), (gg_wm 853 (by decide +kernel) rfl), (gg_wm 854 (by decide +kernel) rfl), cb_124⟩
theorem lk_0_29 : gg_CV "GutterGardensLaw" 29 90 := ⟨(gg_wm 352 (by decide +kernel) rfl), (gg_wm 353 (by decide +kernel) rfl), (gg_wm 354 (by decide +kernel) rfl), cb_90⟩
theorem lk_0_32 : gg_CV "GutterGardensLaw" 32 128 := ⟨(gg_wm 869 (by decide +kernel) rfl), (gg_wm 870 (by decide +kernel) rfl), (gg_wm 871 (by decide +kernel) rfl), cb_128⟩
theorem lk_0_33 : gg_CV "GutterGardensLaw" 33 91 := ⟨(gg_wm 387 (by decide +kernel) rfl), (gg_wm 388 (by decide +kernel) rfl), (gg_wm 389 (by decide +kernel) rfl), cb_91⟩
theorem lk_0_37 : gg_CV "GutterGardensLaw" 37 129 := ⟨(gg_wm 873 (by decide +kernel) rfl), (gg_wm 874 (by decide +kernel) rfl), (gg_wm 875 (by decide +kernel) rfl), cb_129⟩
theorem lk_0_38 : gg_CV "GutterGardensLaw" 38 94 := ⟨(gg_wm 443 (by decide +kernel) rfl), (gg_wm 444 (by decide +kernel) rfl), (gg_wm 445 (by decide +kernel) rfl), cb_94⟩
theorem lk_0_42 : gg_CV "GutterGardensLaw" 42 132 := ⟨(gg_wm 887 (by decide +kernel) rfl), (gg_wm 888 (by decide +kernel) rfl), (gg_wm 889 (by decide +kernel) rfl), cb_132⟩
theorem lk_0_43 : gg_CV "GutterGardensLaw" 43 95 := ⟨(gg_wm 451 (by decide +kernel) rfl), (gg_wm 452 (by decide +kernel) rfl), (gg_wm 453 (by decide +kernel) rfl), cb_95⟩
theorem lk_0_47 : gg_CV "GutterGardensLaw" 47 133 := ⟨(gg_wm 891 (by decide +kernel) rfl), (gg_wm 892 (by decide +kernel) rfl), (gg_wm 893 (by decide +kernel) rfl), cb_133⟩
theorem lk_0_48 : gg_CV "GutterGardensLaw" 48 97 := ⟨(gg_wm 501 (by decide +kernel) rfl), (gg_wm 502 (by decide +kernel) rfl), (gg_wm 503 (by decide +kernel) rfl), cb_97⟩
theorem lk_0_51 : gg_CV "GutterGardensLaw" 51 137 := ⟨(gg_wm 906 (by decide +kernel) rfl), (gg_wm 907 (by decide +kernel) rfl), (gg_wm 908 (by decide +kernel) rfl), cb_137⟩
theorem lk_0_52 : gg_CV "GutterGardensLaw" 52 98 := ⟨(gg_wm 506 (by decide +kernel) rfl), (gg_wm 507 (by decide +kernel) rfl), (gg_wm 508 (by decide +kernel) rfl), cb_98⟩
theorem lk_0_55 : gg_CV "GutterGardensLaw" 55 138 := ⟨(gg_wm 910 (by decide +kernel) rfl), (gg_wm 911 (by decide +kernel) rfl), (gg_wm 912 (by decide +kernel) rfl), cb_138⟩
theorem lk_0_56 : gg_CV "GutterGardensLaw" 56 99 := ⟨(gg_wm 514 (by decide +kernel) rfl), (gg_wm 515 (by decide +kernel) rfl), (gg_wm 516 (by decide +kernel) rfl), cb_99⟩
theorem lk_0_59 : gg_CV "GutterGardensLaw" 59 139 := ⟨(gg_wm 914 (by decide +kernel) rfl), (gg_wm 915 (by decide +kernel) rfl), (gg_wm 916 (by decide +kernel) rfl), cb_139⟩
theorem lk_0_60 : gg_CV "GutterGardensLaw" 60 100 := ⟨(gg_wm 528 (by decide +kernel) rfl), (gg_wm 529 (by decide +kernel) rfl), (gg_wm 530 (by decide +kernel) rfl), cb_100⟩
theorem lk_0_64 : gg_CV "GutterGardensLaw" 64 140 := ⟨(gg_wm 918 (by decide +kernel) rfl), (gg_wm 919 (by decide +kernel) rfl), (gg_wm 920 (by decide +kernel) rfl), cb_140⟩
theorem lk_0_65 : gg_CV "GutterGardensLaw" 65 101 := ⟨(gg_wm 538 (by decide +kernel) rfl), (gg_wm 539 (by decide +kernel) rfl), (gg_wm 540 (by decide +kernel) rfl), cb_101⟩
theorem lk_0_69 : gg_CV "GutterGardensLaw" 69 143 := ⟨(gg_wm 931 (by decide +kernel) rfl), (gg_wm 932 (by decide +kernel) rfl), (gg_wm 933 (by decide +kernel) rfl), cb_143⟩
theorem lk_0_70 : gg_CV "GutterGardensLaw" 70 102 := ⟨(gg_wm 550 (by decide +kernel) rfl), (gg_wm 551 (by decide +kernel) rfl), (gg_wm 552 (by decide +kernel) rfl), cb_102⟩
theorem lk_0_73 : gg_CV "GutterGardensLaw" 73 144 := ⟨(gg_wm 935 (by decide +kernel) rfl), (gg_wm 936 (by decide +kernel) rfl), (gg_wm 937 (by decide +kernel) rfl), cb_144⟩
theorem lk_0_74 : gg_CV "GutterGardensLaw" 74 103 := ⟨(gg_wm 581 (by decide +kernel) rfl), (gg_wm 582 (by decide +kernel) rfl), (gg_wm 583 (by decide +kernel) rfl), cb_103⟩
theorem lk_0_77 : gg_CV "GutterGardensLaw" 77 148 := ⟨(gg_wm 950 (by decide +kernel) rfl), (gg_wm 951 (by decide +kernel) rfl), (gg_wm 952 (by decide +kernel) rfl), cb_148⟩
theorem lk_0_78 : gg_CV "GutterGardensLaw" 78 104 := ⟨(gg_wm 586 (by decide +kernel) rfl), (gg_wm 587 (by decide +kernel) rfl), (gg_wm 588 (by decide +kernel) rfl), cb_104⟩
theorem lk_0_81 : gg_CV "GutterGardensLaw" 81 149 := ⟨(gg_wm 954 (by decide +kernel) rfl), (gg_wm 955 (by decide +kernel) rfl), (gg_wm 956 (by decide +kernel) rfl), cb_149⟩
theorem lk_0_82 : gg_CV "GutterGardensLaw" 82 106 := ⟨(gg_wm 616 (by decide +kernel) rfl), (gg_wm 617 (by decide +kernel) rfl), (gg_wm 618 (by decide +kernel) rfl), cb_106⟩
theorem lk_0_85 : gg_CV "GutterGardensLaw" 85 151 := ⟨(gg_wm 962 (by decide +kernel) rfl), (gg_wm 963 (by decide +kernel) rfl), (gg_wm 964 (by decide +kernel) rfl), cb_151⟩
theorem lk_0_86 : gg_CV "GutterGardensLaw" 86 107 := ⟨(gg_wm 624 (by decide +kernel) rfl), (gg_wm 625 (by decide +kernel) rfl), (gg_wm 626 (by decide +kernel) rfl), cb_107⟩
theorem lk_0_89 : gg_CV "GutterGardensLaw" 89 152 := ⟨(gg_wm 966 (by decide +kernel) rfl), (gg_wm 967 (by decide +kernel) rfl), (gg_wm 968 (by decide +kernel) rfl), cb_152⟩
theorem lk_0_90 : gg_CV "GutterGardensLaw" 90 108 := ⟨(gg_wm 633 (by decide +kernel) rfl), (gg_wm 634 (by decide +kernel) rfl), (gg_wm 635 (by decide +kernel) rfl), cb_108⟩
theorem lk_0_93 : gg_CV "GutterGardensLaw" 93 153 := ⟨(gg_wm 970 (by decide +kernel) rfl), (gg_wm 971 (by decide +kernel) rfl), (gg_wm 972 (by decide +kernel) rfl), cb_153⟩
theorem lk_0_94 : gg_CV "GutterGardensLaw" 94 109 := ⟨(gg_wm 649 (by decide +kernel) rfl), (gg_wm 650 (by decide +kernel) rfl), (gg_wm 651 (by decide +kernel) rfl), cb_109⟩
theorem lk_0_97 : gg_CV "GutterGardensLaw" 97 154 := ⟨(gg_wm 975 (by decide +kernel) rfl), (gg_wm 976 (by decide +kernel) rfl), (gg_wm 977 (by decide +kernel) rfl), cb_154⟩
theorem lk_0_98 : gg_CV "GutterGardensLaw" 98 110 := ⟨(gg_wm 657 (by decide +kernel) rfl), (gg_wm 658 (by decide +kernel) rfl), (gg_wm 659 (by decide +kernel) rfl), cb_110⟩
theorem lk_0_101 : gg_CV "GutterGardensLaw" 101 155 := ⟨(gg_wm 979 (by decide +kernel) rfl), (gg_wm 980 (by decide +kernel) rfl), (gg_wm 981 (by decide +kernel) rfl), cb_155⟩
theorem lk_0_102 : gg_CV "GutterGardensLaw" 102 111 := ⟨(gg_wm 681 (by decide +kernel) rfl), (gg_wm 682 (by decide +kernel) rfl), (gg_wm 683 (by decide +kernel) rfl), cb_111⟩
theorem lk_0_106 : gg_CV "GutterGardensLaw" 106 157 := ⟨(gg_wm 987 (by decide +kernel) rfl), (gg_wm 988 (by decide +kernel) rfl), (gg_wm 989 (by decide +kernel) rfl), cb_157⟩
theorem lk_0_107 : gg_CV "GutterGardensLaw" 107 112 := ⟨(gg_wm 693 (by decide +kernel) rfl), (gg_wm 694 (by decide +kernel) rfl), (gg_wm 695 (by decide +kernel) rfl), cb_112⟩
theorem lk_0_111 : gg_CV "GutterGardensLaw" 111 158 := ⟨(gg_wm 991 (by decide +kernel) rfl), (gg_wm 992 (by decide +kernel) rfl), (gg_wm 993 (by decide +kernel) rfl), cb_158⟩
theorem lk_0_112 : gg_CV "GutterGardensLaw" 112 115 := ⟨(gg_wm 716 (by decide +kernel) rfl), (gg_wm 717 (by decide +kernel) rfl), (gg_wm 718 (by decide +kernel) rfl), cb_115⟩
theorem lk_0_116 : gg_CV "GutterGardensLaw" 116 160 := ⟨(gg_wm 1001 (by decide +kernel) rfl), (gg_wm 1002 (by decide +kernel) rfl), (gg_wm 1003 (by decide +kernel) rfl), cb_160⟩
theorem lk_0_117 : gg_CV "GutterGardensLaw" 117 116 := ⟨(gg_wm 720 (by decide +kernel) rfl), (gg_wm 721 (by decide +kernel) rfl), (gg_wm 722 (by decide +kernel) rfl), cb_116⟩
theorem lk_0_120 : gg_CV "GutterGardensLaw" 120 161 := ⟨(gg_wm 1005 (by decide +kernel) rfl), (gg_wm 1006 (by decide +kernel) rfl), (gg_wm 1007 (by decide +kernel) rfl), cb_161⟩
theorem lk_0_121 : gg_CV "GutterGardensLaw" 121 117 := ⟨(gg_wm 726 (by decide +kernel) rfl), (gg_wm 727 (by decide +kernel) rfl), (gg_wm 728 (by decide +kernel) rfl), cb_117⟩
theorem lk_0_124 : gg_CV "GutterGardensLaw" 124 162 := ⟨(gg_wm 1012 (by decide +kernel) rfl), (gg_wm 1013 (by decide +kernel) rfl), (gg_wm 1014 (by decide +kernel) rfl), cb_162⟩
theorem lk_0_125 : gg_CV "GutterGardensLaw" 125 118 := ⟨(gg_wm 735 (by decide +kernel) rfl), (gg_wm 736 (by decide +kernel) rfl), (gg_wm 737 (by decide +kernel) rfl), cb_118⟩
theorem lk_0_128 : gg_CV "GutterGardensLaw" 128 163 := ⟨(gg_wm 1016 (by decide +kernel) rfl), (gg_wm 1017 (by decide +kernel) rfl), (gg_wm 1018 (by decide +kernel) rfl), cb_163⟩
theorem lk_0_129 : gg_CV "GutterGardensLaw" 129 119 := ⟨(gg_wm 745 (by decide +kernel) rfl), (gg_wm 746 (by decide +kernel) rfl), (gg_wm 747 (by decide +kernel) rfl), cb_119⟩
theorem lk_0_132 : gg_CV "GutterGardensLaw" 132 164 := ⟨(gg_wm 1020 (by decide +kernel) rfl), (gg_wm 1021 (by decide +kernel) rfl), (gg_wm 1022 (by decide +kernel) rfl), cb_164⟩
theorem lk_10_59 : gg_CS "GutterGardensModel" 59 122 := ⟨(gg_wm 844 (by decide +kernel) rfl), (gg_wm 845 (by decide +kernel) rfl), cb_122⟩
theorem lk_10_79 : gg_CV "GutterGardensModel" 79 126 := ⟨(gg_wm 860 (by decide +kernel) rfl), (gg_wm 862 (by decide +kernel) rfl), (gg_wm 10 (by decide +kernel) rfl), cb_126⟩
theorem lk_10_83 : gg_CV "GutterGardensModel" 83 127 := ⟨(gg_wm 865 (by decide +kernel) rfl), (gg_wm 867 (by decide +kernel) rfl), (gg_wm 11 (by decide +kernel) rfl), cb_127⟩
theorem lk_10_87 : gg_CV "GutterGardensModel" 87 125 := ⟨(gg_wm 856 (by decide +kernel) rfl), (gg_wm 858 (by decide +kernel) rfl), (gg_wm 9 (by decide +kernel) rfl), cb_125⟩
theorem lk_10_99 : gg_CV "GutterGardensModel" 99 130 := ⟨(gg_wm 877 (by decide +kernel) rfl), (gg_wm 879 (by decide +kernel) rfl), (gg_wm 12 (by decide +kernel) rfl), cb_130⟩
theorem lk_10_105 : gg_CV "GutterGardensModel" 105 131 := ⟨(gg_wm 882 (by decide +kernel) rfl), (gg_wm 884 (by decide +kernel) rfl), (gg_wm 13 (by decide +kernel) rfl), cb_131⟩
theorem lk_10_114 : gg_CS "GutterGardensModel" 114 136 := ⟨(gg_wm 903 (by decide +kernel) rfl), (gg_wm 904 (by decide +kernel) rfl), cb_136⟩
theorem lk_10_118 : gg_CV "GutterGardensModel" 118 134 := ⟨(gg_wm 895 (by decide +kernel) rfl), (gg_wm 897 (by decide +kernel) rfl), (gg_wm 14 (by decide +kernel) rfl), cb_134⟩
theorem lk_10_121 : gg_CV "GutterGardensModel" 121 135 := ⟨(gg_wm 899 (by decide +kernel) rfl), (gg_wm 901 (by decide +kernel) rfl), (gg_wm 15 (by decide +kernel) rfl), cb_135⟩
theorem lk_10_124 : gg_CV "GutterGardensModel" 124 142 := ⟨(gg_wm 927 (by decide +kernel) rfl), (gg_wm 929 (by decide +kernel) rfl), (gg_wm 17 (by decide +kernel) rfl), cb_142⟩
theorem lk_10_129 : gg_CV "GutterGardensModel" 129 141 := ⟨(gg_wm 923 (by decide +kernel) rfl), (gg_wm 925 (by decide +kernel) rfl), (gg_wm 16 (by decide +kernel) rfl), cb_141⟩
theorem lk_10_136 : gg_CV "GutterGardensModel" 136 146 := ⟨(gg_wm 943 (by decide +kernel) rfl), (gg_wm 945 (by decide +kernel) rfl), (gg_wm 19 (by decide +kernel) rfl), cb_146⟩
theorem lk_10_139 : gg_CS "GutterGardensModel" 139 147 := ⟨(gg_wm 947 (by decide +kernel) rfl), (gg_wm 948 (by decide +kernel) rfl), cb_147⟩
theorem lk_10_142 : gg_CV "GutterGardensModel" 142 145 := ⟨(gg_wm 939 (by decide +kernel) rfl), (gg_wm 941 (by decide +kernel) rfl), (gg_wm 18 (by decide +kernel) rfl), cb_145⟩
theorem lk_10_146 : gg_CV "GutterGardensModel" 146 150 := ⟨(gg_wm 958 (by decide +kernel) rfl), (gg_wm 960 (by decide +kernel) rfl), (gg_wm 20 (by decide +kernel) rfl), cb_150⟩
theorem lk_10_154 : gg_CV "GutterGardensModel" 154 156 := ⟨(gg_wm 983 (by decide +kernel) rfl), (gg_wm 985 (by decide +kernel) rfl), (gg_wm 21 (by decide +kernel) rfl), cb_156⟩
theorem lk_10_163 : gg_CS "GutterGardensModel" 163 159 := ⟨(gg_wm 998 (by decide +kernel) rfl), (gg_wm 999 (by decide +kernel) rfl), cb_159⟩
theorem fl_9_10 : gg_FL "GutterGardens" 10 8 0 := ⟨_, _, _, rfl, by decide, gg_wm 235 (by decide +kernel) rfl⟩
theorem fl_9_19 : gg_FL "GutterGardens" 19 8 1 := ⟨_, _, _, rfl, by decide, gg_wm 236 (by decide +kernel) rfl⟩
theorem fl_9_26 : gg_FL "GutterGardens" 26 8 2 := ⟨_, _, _, rfl, by decide, gg_wm 237 (by decide +kernel) rfl⟩
theorem fl_9_33 : gg_FL "GutterGardens" 33 8 3 := ⟨_, _, _, rfl, by decide, gg_wm 238 (by decide +kernel) rfl⟩
theorem fl_9_40 : gg_FL "GutterGardens" 40 8 4 := ⟨_, _, _, rfl, by decide, gg_wm 239 (by decide +kernel) rfl⟩
theorem fl_9_49 : gg_FL "GutterGardens" 49 8 5 := ⟨_, _, _, rfl, by decide, gg_wm 240 (by decide +kernel) rfl⟩
theorem fl_9_56 : gg_FL "GutterGardens" 56 8 6 := ⟨_, _, _, rfl, by decide, gg_wm 241 (by decide +kernel) rfl⟩
theorem fl_9_65 : gg_FL "GutterGardens" 65 8 7 := ⟨_, _, _, rfl, by decide, gg_wm 242 (by decide +kernel) rfl⟩
theorem fl_9_69 : gg_FL "GutterGardens" 69 8 8 := ⟨_, _, _, rfl, by decide, gg_wm 243 (by decide +kernel) rfl⟩
theorem fl_1_14 : gg_FL "GutterGardens$Acts" 14 0 0 := ⟨_, _, _, rfl, by decide, gg_wm 166 (by decide +kernel) rfl⟩
theorem fl_1_20 : gg_FL "GutterGardens$Acts" 20 0 1 := ⟨_, _, _, rfl, by decide, gg_wm 167 (by decide +kernel) rfl⟩
theorem fl_1_24 : gg_FL "GutterGardens$Acts" 24 0 2 := ⟨_, _, _, rfl, by decide, gg_wm 168 (by decide +kernel) rfl⟩
theorem fl_2_9 : gg_FL "GutterGardens$Gauges" 9 1 0 := ⟨_, _, _, rfl, by decide, gg_wm 211 (by decide +kernel) rfl⟩
theorem fl_2_15 : gg_FL "GutterGardens$Gauges" 15 1 1 := ⟨_, _, _, rfl, by decide, gg_wm 212 (by decide +kernel) rfl⟩
theorem fl_2_18 : gg_FL "GutterGardens$Gauges" 18 1 2 := ⟨_, _, _, rfl, by decide, gg_wm 213 (by decide +kernel) rfl⟩
theorem fl_2_21 : gg_FL "GutterGardens$Gauges" 21 1 3 := ⟨_, _, _, rfl, by decide, gg_wm 214 (by decide +kernel) rfl⟩
theorem fl_2_25 : gg_FL "GutterGardens$Gauges" 25 1 4 := ⟨_, _, _, rfl, by decide, gg_wm 215 (by decide +kernel) rfl⟩
theorem fl_2_28 : gg_FL "GutterGardens$Gauges" 28 1 5 := ⟨_, _, _, rfl, by decide, gg_wm 216 (by decide +kernel) rfl⟩
theorem fl_2_31 : gg_FL "GutterGardens$Gauges" 31 1 6 := ⟨_, _, _, rfl, by decide, gg_wm 217 (by decide +kernel) rfl⟩
theorem fl_3_12 : gg_FL "GutterGardens$Outlook" 12 2 2 := ⟨_, _, _, rfl, by decide, gg_wm 188 (by decide +kernel) rfl⟩
theorem fl_3_23 : gg_FL "GutterGardens$Outlook" 23 2 3 := ⟨_, _, _, rfl, by decide, gg_wm 189 (by decide +kernel) rfl⟩
theorem fl_3_27 : gg_FL "GutterGardens$Outlook" 27 2 4 := ⟨_, _, _, rfl, by decide, gg_wm 190 (by decide +kernel) rfl⟩
theorem fl_3_31 : gg_FL "GutterGardens$Outlook" 31 2 5 := ⟨_, _, _, rfl, by decide, gg_wm 191 (by decide +kernel) rfl⟩
theorem fl_3_34 : gg_FL "GutterGardens$Outlook" 34 2 0 := ⟨_, _, _, rfl, by decide, gg_wm 186 (by decide +kernel) rfl⟩
theorem fl_3_38 : gg_FL "GutterGardens$Outlook" 38 2 1 := ⟨_, _, _, rfl, by decide, gg_wm 187 (by decide +kernel) rfl⟩
theorem fl_4_12 : gg_FL "GutterGardens$Reader" 12 3 0 := ⟨_, _, _, rfl, by decide, gg_wm 88 (by decide +kernel) rfl⟩
theorem fl_4_18 : gg_FL "GutterGardens$Reader" 18 3 1 := ⟨_, _, _, rfl, by decide, gg_wm 89 (by decide +kernel) rfl⟩
theorem fl_4_22 : gg_FL "GutterGardens$Reader" 22 3 2 := ⟨_, _, _, rfl, by decide, gg_wm 90 (by decide +kernel) rfl⟩
theorem fl_4_26 : gg_FL "GutterGardens$Reader" 26 3 3 := ⟨_, _, _, rfl, by decide, gg_wm 91 (by decide +kernel) rfl⟩
theorem fl_4_29 : gg_FL "GutterGardens$Reader" 29 3 4 := ⟨_, _, _, rfl, by decide, gg_wm 92 (by decide +kernel) rfl⟩
theorem fl_5_9 : gg_FL "GutterGardens$Roofs" 9 4 0 := ⟨_, _, _, rfl, by decide, gg_wm 69 (by decide +kernel) rfl⟩
theorem fl_5_15 : gg_FL "GutterGardens$Roofs" 15 4 1 := ⟨_, _, _, rfl, by decide, gg_wm 70 (by decide +kernel) rfl⟩
theorem fl_5_18 : gg_FL "GutterGardens$Roofs" 18 4 2 := ⟨_, _, _, rfl, by decide, gg_wm 71 (by decide +kernel) rfl⟩
theorem fl_5_21 : gg_FL "GutterGardens$Roofs" 21 4 3 := ⟨_, _, _, rfl, by decide, gg_wm 72 (by decide +kernel) rfl⟩
theorem fl_5_24 : gg_FL "GutterGardens$Roofs" 24 4 4 := ⟨_, _, _, rfl, by decide, gg_wm 73 (by decide +kernel) rfl⟩
theorem fl_5_27 : gg_FL "GutterGardens$Roofs" 27 4 5 := ⟨_, _, _, rfl, by decide, gg_wm 74 (by decide +kernel) rfl⟩
theorem fl_6_10 : gg_FL "GutterGardens$Shelf" 10 5 2 := ⟨_, _, _, rfl, by decide, gg_wm 157 (by decide +kernel) rfl⟩
theorem fl_6_22 : gg_FL "GutterGardens$Shelf" 22 5 0 := ⟨_, _, _, rfl, by decide, gg_wm 155 (by decide +kernel) rfl⟩
theorem fl_6_26 : gg_FL "GutterGardens$Shelf" 26 5 1 := ⟨_, _, _, rfl, by decide, gg_wm 156 (by decide +kernel) rfl⟩
theorem fl_7_9 : gg_FL "GutterGardens$Text" 9 6 0 := ⟨_, _, _, rfl, by decide, gg_wm 49 (by decide +kernel) rfl⟩
theorem fl_7_15 : gg_FL "GutterGardens$Text" 15 6 1 := ⟨_, _, _, rfl, by decide, gg_wm 50 (by decide +kernel) rfl⟩
theorem fl_8_9 : gg_FL "GutterGardens$Waters" 9 7 0 := ⟨_, _, _, rfl, by decide, gg_wm 112 (by decide +kernel) rfl⟩
theorem fl_8_15 : gg_FL "GutterGardens$Waters" 15 7 1 := ⟨_, _, _, rfl, by decide, gg_wm 113 (by decide +kernel) rfl⟩
theorem fl_8_18 : gg_FL "GutterGardens$Waters" 18 7 2 := ⟨_, _, _, rfl, by decide, gg_wm 114 (by decide +kernel) rfl⟩
theorem fl_8_21 : gg_FL "GutterGardens$Waters" 21 7 3 := ⟨_, _, _, rfl, by decide, gg_wm 115 (by decide +kernel) rfl⟩
theorem fl_8_24 : gg_FL "GutterGardens$Waters" 24 7 4 := ⟨_, _, _, rfl, by decide, gg_wm 116 (by decide +kernel) rfl⟩
theorem fl_8_28 : gg_FL "GutterGardens$Waters" 28 7 5 := ⟨_, _, _, rfl, by decide, gg_wm 117 (by decide +kernel) rfl⟩
theorem fl_8_31 : gg_FL "GutterGardens$Waters" 31 7 6 := ⟨_, _, _, rfl, by decide, gg_wm 118 (by decide +kernel) rfl⟩
theorem fl_8_34 : gg_FL "GutterGardens$Waters" 34 7 7 := ⟨_, _, _, rfl, by decide, gg_wm 119 (by decide +kernel) rfl⟩
theorem fl_10_7 : gg_FL "GutterGardensModel" 7 9 0 := ⟨_, _, _, rfl, by decide, gg_wm 760 (by decide +kernel) rfl⟩
theorem fl_10_13 : gg_FL "GutterGardensModel" 13 9 1 := ⟨_, _, _, rfl, by decide, gg_wm 761 (by decide +kernel) rfl⟩
theorem fl_10_16 : gg_FL "GutterGardensModel" 16 9 3 := ⟨_, _, _, rfl, by decide, gg_wm 763 (by decide +kernel) rfl⟩
theorem fl_10_19 : gg_FL "GutterGardensModel" 19 9 4 := ⟨_, _, _, rfl, by decide, gg_wm 764 (by decide +kernel) rfl⟩
theorem fl_10_22 : gg_FL "GutterGardensModel" 22 9 8 := ⟨_, _, _, rfl, by decide, gg_wm 768 (by decide +kernel) rfl⟩
theorem fl_10_25 : gg_FL "GutterGardensModel" 25 9 14 := ⟨_, _, _, rfl, by decide, gg_wm 774 (by decide +kernel) rfl⟩
theorem fl_10_28 : gg_FL "GutterGardensModel" 28 9 15 := ⟨_, _, _, rfl, by decide, gg_wm 775 (by decide +kernel) rfl⟩
theorem fl_10_31 : gg_FL "GutterGardensModel" 31 9 16 := ⟨_, _, _, rfl, by decide, gg_wm 776 (by decide +kernel) rfl⟩
theorem fl_10_34 : gg_FL "GutterGardensModel" 34 9 18 := ⟨_, _, _, rfl, by decide, gg_wm 778 (by decide +kernel) rfl⟩
theorem fl_10_37 : gg_FL "GutterGardensModel" 37 9 20 := ⟨_, _, _, rfl, by decide, gg_wm 780 (by decide +kernel) rfl⟩
theorem fl_10_40 : gg_FL "GutterGardensModel" 40 9 21 := ⟨_, _, _, rfl, by decide, gg_wm 781 (by decide +kernel) rfl⟩
theorem fl_10_43 : gg_FL "GutterGardensModel" 43 9 22 := ⟨_, _, _, rfl, by decide, gg_wm 782 (by decide +kernel) rfl⟩
theorem fl_10_46 : gg_FL "GutterGardensModel" 46 9 24 := ⟨_, _, _, rfl, by decide, gg_wm 784 (by decide +kernel) rfl⟩
theorem fl_10_50 : gg_FL "GutterGardensModel" 50 9 25 := ⟨_, _, _, rfl, by decide, gg_wm 785 (by decide +kernel) rfl⟩
theorem fl_10_53 : gg_FL "GutterGardensModel" 53 9 5 := ⟨_, _, _, rfl, by decide, gg_wm 765 (by decide +kernel) rfl⟩
theorem fl_10_63 : gg_FL "GutterGardensModel" 63 9 9 := ⟨_, _, _, rfl, by decide, gg_wm 769 (by decide +kernel) rfl⟩
theorem fl_10_68 : gg_FL "GutterGardensModel" 68 9 11 := ⟨_, _, _, rfl, by decide, gg_wm 771 (by decide +kernel) rfl⟩
theorem fl_10_71 : gg_FL "GutterGardensModel" 71 9 10 := ⟨_, _, _, rfl, by decide, gg_wm 770 (by decide +kernel) rfl⟩
theorem fl_10_76 : gg_FL "GutterGardensModel" 76 9 2 := ⟨_, _, _, rfl, by decide, gg_wm 762 (by decide +kernel) rfl⟩
theorem fl_10_90 : gg_FL "GutterGardensModel" 90 9 6 := ⟨_, _, _, rfl, by decide, gg_wm 766 (by decide +kernel) rfl⟩
theorem fl_10_93 : gg_FL "GutterGardensModel" 93 9 7 := ⟨_, _, _, rfl, by decide, gg_wm 767 (by decide +kernel) rfl⟩
theorem fl_10_96 : gg_FL "GutterGardensModel" 96 9 12 := ⟨_, _, _, rfl, by decide, gg_wm 772 (by decide +kernel) rfl⟩
theorem fl_10_111 : gg_FL "GutterGardensModel" 111 9 13 := ⟨_, _, _, rfl, by decide, gg_wm 773 (by decide +kernel) rfl⟩
theorem fl_10_133 : gg_FL "GutterGardensModel" 133 9 17 := ⟨_, _, _, rfl, by decide, gg_wm 777 (by decide +kernel) rfl⟩
theorem fl_10_151 : gg_FL "GutterGardensModel" 151 9 19 := ⟨_, _, _, rfl, by decide, gg_wm 779 (by decide +kernel) rfl⟩
theorem fl_10_167 : gg_FL "GutterGardensModel" 167 9 23 := ⟨_, _, _, rfl, by decide, gg_wm 783 (by decide +kernel) rfl⟩
theorem cs_9_239 : (Cond.constantLong "GutterGardens" 239 (-1)) ∈ gg_GW := gg_wm 697 (by decide +kernel) rfl
theorem cs_9_241 : (Cond.constantLong "GutterGardens" 241 (-2)) ∈ gg_GW := gg_wm 698 (by decide +kernel) rfl
theorem cs_9_247 : (Cond.constantLong "GutterGardens" 247 (10)) ∈ gg_GW := gg_wm 708 (by decide +kernel) rfl
theorem cs_9_262 : (Cond.constantLong "GutterGardens" 262 (6364136223846793005)) ∈ gg_GW := gg_wm 724 (by decide +kernel) rfl
theorem cs_9_264 : (Cond.constantLong "GutterGardens" 264 (1442695040888963407)) ∈ gg_GW := gg_wm 725 (by decide +kernel) rfl
theorem cs_0_13 : (Cond.constantLong "GutterGardensLaw" 13 (4294967295)) ∈ gg_GW := gg_wm 1024 (by decide +kernel) rfl
theorem cs_10_57 : (Cond.constantLong "GutterGardensModel" 57 (8)) ∈ gg_GW := gg_wm 843 (by decide +kernel) rfl
theorem cs_10_66 : (Cond.constantLong "GutterGardensModel" 66 (255)) ∈ gg_GW := gg_wm 847 (by decide +kernel) rfl
theorem cs_10_74 : (Cond.constantLong "GutterGardensModel" 74 (9)) ∈ gg_GW := gg_wm 864 (by decide +kernel) rfl
theorem cs_10_103 : (Cond.constantLong "GutterGardensModel" 103 (3)) ∈ gg_GW := gg_wm 881 (by decide +kernel) rfl
theorem cs_10_109 : (Cond.constantLong "GutterGardensModel" 109 (6)) ∈ gg_GW := gg_wm 886 (by decide +kernel) rfl
theorem cs_10_127 : (Cond.constantLong "GutterGardensModel" 127 (20)) ∈ gg_GW := gg_wm 922 (by decide +kernel) rfl
theorem cs_10_149 : (Cond.constantLong "GutterGardensModel" 149 (999)) ∈ gg_GW := gg_wm 974 (by decide +kernel) rfl
theorem cs_10_157 : (Cond.constantLong "GutterGardensModel" 157 (-1)) ∈ gg_GW := gg_wm 995 (by decide +kernel) rfl
theorem cs_10_159 : (Cond.constantLong "GutterGardensModel" 159 (10)) ∈ gg_GW := gg_wm 996 (by decide +kernel) rfl
theorem cs_10_161 : (Cond.constantLong "GutterGardensModel" 161 (-2)) ∈ gg_GW := gg_wm 997 (by decide +kernel) rfl
theorem cs_10_171 : (Cond.constantLong "GutterGardensModel" 171 (40)) ∈ gg_GW := gg_wm 1009 (by decide +kernel) rfl
theorem cs_10_173 : (Cond.constantLong "GutterGardensModel" 173 (6364136223846793005)) ∈ gg_GW := gg_wm 1010 (by decide +kernel) rfl
theorem cs_10_175 : (Cond.constantLong "GutterGardensModel" 175 (1442695040888963407)) ∈ gg_GW := gg_wm 1011 (by decide +kernel) rfl
theorem cs_11_265 : (Cond.constant "java/lang/Integer" 265 (1431655765)) ∈ gg_GW := gg_wm 578 (by decide +kernel) rfl
theorem cs_11_266 : (Cond.constant "java/lang/Integer" 266 (858993459)) ∈ gg_GW := gg_wm 579 (by decide +kernel) rfl
theorem cs_11_267 : (Cond.constant "java/lang/Integer" 267 (252645135)) ∈ gg_GW := gg_wm 580 (by decide +kernel) rfl
theorem cl_9_7 : (Cond.classLink "GutterGardens" 7 "GutterGardens$Text") ∈ gg_GW := gg_wm 43 (by decide +kernel) rfl
theorem cl_9_16 : (Cond.classLink "GutterGardens" 16 "GutterGardens$Reader") ∈ gg_GW := gg_wm 57 (by decide +kernel) rfl
theorem cl_9_23 : (Cond.classLink "GutterGardens" 23 "GutterGardens$Roofs") ∈ gg_GW := gg_wm 104 (by decide +kernel) rfl
theorem cl_9_30 : (Cond.classLink "GutterGardens" 30 "GutterGardens$Waters") ∈ gg_GW := gg_wm 106 (by decide +kernel) rfl
theorem cl_9_37 : (Cond.classLink "GutterGardens" 37 "GutterGardens$Acts") ∈ gg_GW := gg_wm 137 (by decide +kernel) rfl
theorem cl_9_44 : (Cond.classLink "GutterGardens" 44 "GutterGardens$Outlook") ∈ gg_GW := gg_wm 176 (by decide +kernel) rfl
theorem cl_9_53 : (Cond.classLink "GutterGardens" 53 "GutterGardens$Gauges") ∈ gg_GW := gg_wm 205 (by decide +kernel) rfl
theorem cl_9_60 : (Cond.classLink "GutterGardens" 60 "GutterGardens$Shelf") ∈ gg_GW := gg_wm 233 (by decide +kernel) rfl
theorem cl_1_9 : (Cond.classLink "GutterGardens$Acts" 9 "GutterGardens$Shelf") ∈ gg_GW := gg_wm 143 (by decide +kernel) rfl
theorem cl_3_9 : (Cond.classLink "GutterGardens$Outlook" 9 "GutterGardens$Waters") ∈ gg_GW := gg_wm 182 (by decide +kernel) rfl
theorem cl_3_18 : (Cond.classLink "GutterGardens$Outlook" 18 "GutterGardens$Shelf") ∈ gg_GW := gg_wm 184 (by decide +kernel) rfl
theorem cl_4_9 : (Cond.classLink "GutterGardens$Reader" 9 "GutterGardens$Roofs") ∈ gg_GW := gg_wm 63 (by decide +kernel) rfl
theorem cl_6_7 : (Cond.classLink "GutterGardens$Shelf" 7 "GutterGardens$Waters") ∈ gg_GW := gg_wm 149 (by decide +kernel) rfl
theorem cl_0_7 : (Cond.classLink "GutterGardensLaw" 7 "GutterGardens") ∈ gg_GW := gg_wm 35 (by decide +kernel) rfl
theorem cl_0_10 : (Cond.classLink "GutterGardensLaw" 10 "GutterGardensModel") ∈ gg_GW := gg_wm 754 (by decide +kernel) rfl
theorem in_0 : (Cond.instantiable "GutterGardens$Acts" 3) ∈ gg_GW := gg_wm 138 (by decide +kernel) rfl
theorem ini_0 : (Cond.initialized "GutterGardens$Acts") ∈ gg_GW := gg_wm 28 (by decide +kernel) rfl
theorem wsin_0 : ∀ w ∈ u_ws RX0 TX0 3, w ∈ gg_GW := fun w h => List.mem_filter.mpr ⟨(show ∀ w ∈ u_ws RX0 TX0 3, w ∈ lw_tbl by decide +kernel) w h, (show ∀ w ∈ u_ws RX0 TX0 3, goodWord w = true by decide +kernel) w h⟩
theorem in_1 : (Cond.instantiable "GutterGardens$Gauges" 7) ∈ gg_GW := gg_wm 206 (by decide +kernel) rfl
theorem ini_1 : (Cond.initialized "GutterGardens$Gauges") ∈ gg_GW := gg_wm 32 (by decide +kernel) rfl
theorem wsin_1 : ∀ w ∈ u_ws RX1 TX1 7, w ∈ gg_GW := fun w h => List.mem_filter.mpr ⟨(show ∀ w ∈ u_ws RX1 TX1 7, w ∈ lw_tbl by decide +kernel) w h, (show ∀ w ∈ u_ws RX1 TX1 7, goodWord w = true by decide +kernel) w h⟩
theorem in_2 : (Cond.instantiable "GutterGardens$Outlook" 6) ∈ gg_GW := gg_wm 177 (by decide +kernel) rfl
theorem ini_2 : (Cond.initialized "GutterGardens$Outlook") ∈ gg_GW := gg_wm 31 (by decide +kernel) rfl
theorem wsin_2 : ∀ w ∈ u_ws RX2 TX2 6, w ∈ gg_GW := fun w h => List.mem_filter.mpr ⟨(show ∀ w ∈ u_ws RX2 TX2 6, w ∈ lw_tbl by decide +kernel) w h, (show ∀ w ∈ u_ws RX2 TX2 6, goodWord w = true by decide +kernel) w h⟩
theorem in_3 : (Cond.instantiable "GutterGardens$Reader" 5) ∈ gg_GW := gg_wm 58 (by decide +kernel) rfl
theorem ini_3 : (Cond.initialized "GutterGardens$Reader") ∈ gg_GW := gg_wm 25 (by decide +kernel) rfl
theorem wsin_3 : ∀ w ∈ u_ws RX3 TX3 5, w ∈ gg_GW := fun w h => List.mem_filter.mpr ⟨(show ∀ w ∈ u_ws RX3 TX3 5, w ∈ lw_tbl by decide +kernel) w h, (show ∀ w ∈ u_ws RX3 TX3 5, goodWord w = true by decide +kernel) w h⟩
theorem in_4 : (Cond.instantiable "GutterGardens$Roofs" 6) ∈ gg_GW := gg_wm 64 (by decide +kernel) rfl
theorem ini_4 : (Cond.initialized "GutterGardens$Roofs") ∈ gg_GW := gg_wm 26 (by decide +kernel) rfl
theorem wsin_4 : ∀ w ∈ u_ws RX4 TX4 6, w ∈ gg_GW := fun w h => List.mem_filter.mpr ⟨(show ∀ w ∈ u_ws RX4 TX4 6, w ∈ lw_tbl by decide +kernel) w h, (show ∀ w ∈ u_ws RX4 TX4 6, goodWord w = true by decide +kernel) w h⟩
theorem in_5 : (Cond.instantiable "GutterGardens$Shelf" 3) ∈ gg_GW := gg_wm 144 (by decide +kernel) rfl
theorem ini_5 : (Cond.initialized "GutterGardens$Shelf") ∈ gg_GW := gg_wm 29 (by decide +kernel) rfl
theorem wsin_5 : ∀ w ∈ u_ws RX5 TX5 3, w ∈ gg_GW := fun w h => List.mem_filter.mpr ⟨(show ∀ w ∈ u_ws RX5 TX5 3, w ∈ lw_tbl by decide +kernel) w h, (show ∀ w ∈ u_ws RX5 TX5 3, goodWord w = true by decide +kernel) w h⟩
theorem in_6 : (Cond.instantiable "GutterGardens$Text" 2) ∈ gg_GW := gg_wm 44 (by decide +kernel) rfl
theorem ini_6 : (Cond.initialized "GutterGardens$Text") ∈ gg_GW := gg_wm 24 (by decide +kernel) rfl
theorem wsin_6 : ∀ w ∈ u_ws RX6 TX6 2, w ∈ gg_GW := fun w h => List.mem_filter.mpr ⟨(show ∀ w ∈ u_ws RX6 TX6 2, w ∈ lw_tbl by decide +kernel) w h, (show ∀ w ∈ u_ws RX6 TX6 2, goodWord w = true by decide +kernel) w h⟩
theorem in_7 : (Cond.instantiable "GutterGardens$Waters" 8) ∈ gg_GW := gg_wm 107 (by decide +kernel) rfl
theorem ini_7 : (Cond.initialized "GutterGardens$Waters") ∈ gg_GW := gg_wm 27 (by decide +kernel) rfl
theorem wsin_7 : ∀ w ∈ u_ws RX7 TX7 8, w ∈ gg_GW := fun w h => List.mem_filter.mpr ⟨(show ∀ w ∈ u_ws RX7 TX7 8, w ∈ lw_tbl by decide +kernel) w h, (show ∀ w ∈ u_ws RX7 TX7 8, goodWord w = true by decide +kernel) w h⟩
theorem in_8 : (Cond.instantiable "GutterGardens" 9) ∈ gg_GW := gg_wm 36 (by decide +kernel) rfl
theorem ini_8 : (Cond.initialized "GutterGardens") ∈ gg_GW := gg_wm 23 (by decide +kernel) rfl
theorem wsin_8 : ∀ w ∈ u_ws RX8 TX8 9, w ∈ gg_GW := fun w h => List.mem_filter.mpr ⟨(show ∀ w ∈ u_ws RX8 TX8 9, w ∈ lw_tbl by decide +kernel) w h, (show ∀ w ∈ u_ws RX8 TX8 9, goodWord w = true by decide +kernel) w h⟩
theorem in_9 : (Cond.instantiable "GutterGardensModel" 26) ∈ gg_GW := gg_wm 755 (by decide +kernel) rfl
theorem ini_9 : (Cond.initialized "GutterGardensModel") ∈ gg_GW := gg_wm 33 (by decide +kernel) rfl
theorem wsin_9 : ∀ w ∈ u_ws RX9 TX9 26, w ∈ gg_GW := fun w h => List.mem_filter.mpr ⟨(show ∀ w ∈ u_ws RX9 TX9 26, w ∈ lw_tbl by decide +kernel) w h, (show ∀ w ∈ u_ws RX9 TX9 26, goodWord w = true by decide +kernel) w h⟩
theorem oi_c : (Cond.code objectInit ⟨#[0xb1]⟩ 1 none) ∈ gg_GW := gg_wm 42 (by decide +kernel) rfl
theorem oi_i : (Cond.instanceMethod objectInit) ∈ gg_GW := gg_wm 41 (by decide +kernel) rfl
theorem oi_9_1 : (Cond.methodLink "GutterGardens" 1 objectInit) ∈ gg_GW := gg_wm 40 (by decide +kernel) rfl
theorem oi_1_3 : (Cond.methodLink "GutterGardens$Acts" 3 objectInit) ∈ gg_GW := gg_wm 142 (by decide +kernel) rfl
theorem oi_2_3 : (Cond.methodLink "GutterGardens$Gauges" 3 objectInit) ∈ gg_GW := gg_wm 210 (by decide +kernel) rfl
theorem oi_3_3 : (Cond.methodLink "GutterGardens$Outlook" 3 objectInit) ∈ gg_GW := gg_wm 181 (by decide +kernel) rfl
theorem oi_4_3 : (Cond.methodLink "GutterGardens$Reader" 3 objectInit) ∈ gg_GW := gg_wm 62 (by decide +kernel) rfl
theorem oi_5_3 : (Cond.methodLink "GutterGardens$Roofs" 3 objectInit) ∈ gg_GW := gg_wm 68 (by decide +kernel) rfl
theorem oi_6_1 : (Cond.methodLink "GutterGardens$Shelf" 1 objectInit) ∈ gg_GW := gg_wm 148 (by decide +kernel) rfl
theorem oi_7_3 : (Cond.methodLink "GutterGardens$Text" 3 objectInit) ∈ gg_GW := gg_wm 48 (by decide +kernel) rfl
theorem oi_8_3 : (Cond.methodLink "GutterGardens$Waters" 3 objectInit) ∈ gg_GW := gg_wm 111 (by decide +kernel) rfl
theorem oi_10_1 : (Cond.methodLink "GutterGardensModel" 1 objectInit) ∈ gg_GW := gg_wm 759 (by decide +kernel) rfl
theorem mm_9_257 : (Cond.methodLink "GutterGardens" 257 Lib.MathLoose.max_long.x) ∈ gg_GW := gg_wm 713 (by decide +kernel) rfl
theorem mm_1_31 : (Cond.methodLink "GutterGardens$Acts" 31 Lib.Math.min.name) ∈ gg_GW := gg_wm 475 (by decide +kernel) rfl
theorem mm_3_85 : (Cond.methodLink "GutterGardens$Outlook" 85 Lib.Math.min.name) ∈ gg_GW := gg_wm 598 (by decide +kernel) rfl
theorem mm_3_121 : (Cond.methodLink "GutterGardens$Outlook" 121 Lib.Math.max.name) ∈ gg_GW := gg_wm 606 (by decide +kernel) rfl
theorem mm_6_16 : (Cond.methodLink "GutterGardens$Shelf" 16 Lib.Math.max.name) ∈ gg_GW := gg_wm 151 (by decide +kernel) rfl
theorem mm_8_70 : (Cond.methodLink "GutterGardens$Waters" 70 Lib.Math.min.name) ∈ gg_GW := gg_wm 484 (by decide +kernel) rfl
theorem mm_8_96 : (Cond.methodLink "GutterGardens$Waters" 96 Lib.Math.max.name) ∈ gg_GW := gg_wm 500 (by decide +kernel) rfl
theorem mmS_max : (Cond.static Lib.Math.max.name) ∈ gg_GW := gg_wm 152 (by decide +kernel) rfl
theorem mmC_max : (Cond.code Lib.Math.max.name Lib.Math.max.code 2 (some .int)) ∈ gg_GW := gg_wm 153 (by decide +kernel) rfl
theorem mmS_min : (Cond.static Lib.Math.min.name) ∈ gg_GW := gg_wm 476 (by decide +kernel) rfl
theorem mmC_min : (Cond.code Lib.Math.min.name Lib.Math.min.code 2 (some .int)) ∈ gg_GW := gg_wm 477 (by decide +kernel) rfl
theorem mmS_lmax : (Cond.static Lib.MathLoose.max_long.x) ∈ gg_GW := gg_wm 714 (by decide +kernel) rfl
theorem mmC_lmax : (Cond.code Lib.MathLoose.max_long.x Lib.MathLoose.max_long.code 4 (some .long)) ∈ gg_GW := gg_wm 715 (by decide +kernel) rfl
theorem mmI : (Cond.initialized "java/lang/Math") ∈ gg_GW := gg_wm 30 (by decide +kernel) rfl
theorem ac_int : (Cond.arrayClass .int) ∈ gg_GW := gg_wm 56 (by decide +kernel) rfl
theorem ac_boolean : (Cond.arrayClass .boolean) ∈ gg_GW := gg_wm 165 (by decide +kernel) rfl
end
