section
-- ===== PART A: goes FIRST, ahead of the names: the tables' words, and 'selects' of the private methods out of them =====
/-- a private method of a class that the tables say can be made, by its rows of tables_1 -/
def lw_okq (q : MethodName × Nat) : Prop := (q.1.cls ≠ "java/lang/invoke/MethodHandle" ∧ q.1.cls ≠ "java/lang/invoke/VarHandle") ∧ Cond.instantiable q.1.cls q.2 ∈ tables_1 ∧ Cond.privateMethod q.1 ∈ tables_1 ∧ Cond.instanceMethod q.1 ∈ tables_1
theorem lw_p0 : lw_okq (⟨"ShipFixtures", "freshTrial", "()LShipFixtures$Desk;"⟩, 5) := ⟨⟨by decide +kernel, by decide +kernel⟩, List.mem_of_getElem? (i := 13) (by decide +kernel), List.mem_of_getElem? (i := 290) (by decide +kernel), List.mem_of_getElem? (i := 291) (by decide +kernel)⟩
theorem lw_p1 : lw_okq (⟨"ShipFixtures", "keep", "(I)I"⟩, 5) := ⟨⟨by decide +kernel, by decide +kernel⟩, List.mem_of_getElem? (i := 13) (by decide +kernel), List.mem_of_getElem? (i := 327) (by decide +kernel), List.mem_of_getElem? (i := 328) (by decide +kernel)⟩
theorem lw_p2 : lw_okq (⟨"ShipFixtures$History", "dropOldest", "()V"⟩, 2) := ⟨⟨by decide +kernel, by decide +kernel⟩, List.mem_of_getElem? (i := 217) (by decide +kernel), List.mem_of_getElem? (i := 340) (by decide +kernel), List.mem_of_getElem? (i := 341) (by decide +kernel)⟩
theorem lw_p3 : lw_okq (⟨"ShipFixtures$Desk", "sail", "(LShipFixtures$Ship;I)V"⟩, 12) := ⟨⟨by decide +kernel, by decide +kernel⟩, List.mem_of_getElem? (i := 21) (by decide +kernel), List.mem_of_getElem? (i := 390) (by decide +kernel), List.mem_of_getElem? (i := 391) (by decide +kernel)⟩
theorem lw_p4 : lw_okq (⟨"ShipFixtures$Desk", "fixturesInTime", "(I)I"⟩, 12) := ⟨⟨by decide +kernel, by decide +kernel⟩, List.mem_of_getElem? (i := 21) (by decide +kernel), List.mem_of_getElem? (i := 416) (by decide +kernel), List.mem_of_getElem? (i := 417) (by decide +kernel)⟩
theorem lw_p5 : lw_okq (⟨"ShipFixtures$Desk", "dropFixtures", "(LShipFixtures$Ship;II)V"⟩, 12) := ⟨⟨by decide +kernel, by decide +kernel⟩, List.mem_of_getElem? (i := 21) (by decide +kernel), List.mem_of_getElem? (i := 420) (by decide +kernel), List.mem_of_getElem? (i := 421) (by decide +kernel)⟩
def lw_privs_1 : List (MethodName × Nat) := [(⟨"ShipFixtures", "freshTrial", "()LShipFixtures$Desk;"⟩, 5), (⟨"ShipFixtures", "keep", "(I)I"⟩, 5), (⟨"ShipFixtures$History", "dropOldest", "()V"⟩, 2), (⟨"ShipFixtures$Desk", "sail", "(LShipFixtures$Ship;I)V"⟩, 12), (⟨"ShipFixtures$Desk", "fixturesInTime", "(I)I"⟩, 12), (⟨"ShipFixtures$Desk", "dropFixtures", "(LShipFixtures$Ship;II)V"⟩, 12)]
theorem lw_r1 : ∀ q ∈ lw_privs_1, lw_okq q := List.forall_mem_cons.mpr ⟨lw_p0, List.forall_mem_cons.mpr ⟨lw_p1, List.forall_mem_cons.mpr ⟨lw_p2, List.forall_mem_cons.mpr ⟨lw_p3, List.forall_mem_cons.mpr ⟨lw_p4, List.forall_mem_cons.mpr ⟨lw_p5, fun _ h => absurd h List.not_mem_nil⟩⟩⟩⟩⟩⟩
def lw_privs : List (MethodName × Nat) := lw_privs_1
def lw_tbl : List Cond := k2_sels lw_privs ++ tables_1
theorem lw_privs_ok : ∀ q ∈ lw_privs, lw_okq q := lw_r1
/-- the streams that the claim lets the run draw from -/
abbrev lw_cs : List Choice := [Jvm.Choice.named "NaN.bits"]
theorem lw_bits : nanBits ∈ lw_cs := by first | decide | exact List.mem_cons_self | simp [lw_cs, nanBits]

theorem goodIn_r {big : List Cond} (ws : List Cond) (ps : List Nat) (hp : ws = ps.filterMap (fun i => big[i]?)) (h : ws.all goodWord = true) : GoodIn big ws := by
  intro w hw
  have h1 := List.all_eq_true.mp h w hw
  rw [hp] at hw
  obtain ⟨i, -, hi⟩ := List.mem_filterMap.mp hw
  have hm : w ∈ big := by first | exact List.mem_of_getElem? hi | exact List.getElem?_mem hi
  exact ⟨hm, good_of_word h1⟩
theorem goodIn_app {big a b : List Cond} (ha : GoodIn big a) (hb : GoodIn big b) : GoodIn big (a ++ b) := fun w h => (List.mem_append.mp h).elim (ha w) (hb w)
theorem goodIn_ca {big a b : List Cond} {c : Cond} (ha : GoodIn big (c :: a)) (hb : GoodIn big b) : GoodIn big (c :: (a ++ b)) := fun w h => (List.mem_cons.mp h).elim (fun e => ha w (List.mem_cons.mpr (Or.inl e))) (fun h => (List.mem_append.mp h).elim (fun h => ha w (List.mem_cons.mpr (Or.inr h))) (hb w))
theorem goodIn_sub {big ws : List Cond} (hm : ∀ w ∈ ws, w ∈ big) (h : ws.all goodWord = true) : GoodIn big ws := fun w hw => ⟨hm w hw, good_of_word (List.all_eq_true.mp h w hw)⟩
def RX0 : String := "ShipFixtures$Cargo"
def TX0 : u_T := fun k => match k with
  | 0 => ("ShipFixtures$Cargo", "amount", "I", false)
  | 1 => ("ShipFixtures$Cargo", "loads", "I", false)
  | 2 => ("ShipFixtures$Cargo", "unloads", "I", false)
  | 3 => ("ShipFixtures$Cargo", "first", "I", false)
  | 4 => ("ShipFixtures$Cargo", "last", "I", false)
  | 5 => ("ShipFixtures$Cargo", "freight", "I", false)
  | 6 => ("ShipFixtures$Cargo", "state", "I", false)
  | _ => ("ShipFixtures$Cargo", "ship", "I", false)
def tyX0 : Nat → FieldType := fun k => match k with
  | 0 => .int
  | 1 => .int
  | 2 => .int
  | 3 => .int
  | 4 => .int
  | 5 => .int
  | 6 => .int
  | _ => .int
abbrev wsX00 : List Cond := u_ws RX0 TX0 8
theorem nmX0 : ∀ a, a < 8 → ∀ b, b < 8 → a ≠ b → (TX0 a).2.1 ≠ (TX0 b).2.1 := by decide +kernel
theorem tyX0_ok : ∀ k, k < 8 → parseFieldDescriptor (TX0 k).2.2.1 = some (tyX0 k) := by decide +kernel
abbrev cX0_init : ByteArray := prog_2_method_1_code
def yX0_init : MethodName := ⟨RX0, "<init>", "()V"⟩
abbrev cX0_copyFrom : ByteArray := prog_2_method_2_code
def yX0_copyFrom : MethodName := ⟨RX0, "copyFrom", "(LShipFixtures$Cargo;)V"⟩
abbrev cX0_worth : ByteArray := prog_2_method_3_code
def yX0_worth : MethodName := ⟨RX0, "worth", "()I"⟩
def RX1 : String := "ShipFixtures$Course"
def TX1 : u_T := fun k => match k with
  | 0 => ("ShipFixtures$Course", "port", "I", false)
  | 1 => ("ShipFixtures$Course", "day", "I", false)
  | 2 => ("ShipFixtures$Course", "arrival", "I", false)
  | 3 => ("ShipFixtures$Course", "loading", "I", false)
  | 4 => ("ShipFixtures$Course", "days", "I", false)
  | 5 => ("ShipFixtures$Course", "earns", "I", false)
  | 6 => ("ShipFixtures$Course", "earnsTogether", "I", false)
  | _ => ("ShipFixtures$Course", "margin", "I", false)
def tyX1 : Nat → FieldType := fun k => match k with
  | 0 => .int
  | 1 => .int
  | 2 => .int
  | 3 => .int
  | 4 => .int
  | 5 => .int
  | 6 => .int
  | _ => .int
abbrev wsX10 : List Cond := u_ws RX1 TX1 8
theorem nmX1 : ∀ a, a < 8 → ∀ b, b < 8 → a ≠ b → (TX1 a).2.1 ≠ (TX1 b).2.1 := by decide +kernel
theorem tyX1_ok : ∀ k, k < 8 → parseFieldDescriptor (TX1 k).2.2.1 = some (tyX1 k) := by decide +kernel
abbrev cX1_init : ByteArray := prog_3_method_1_code
def yX1_init : MethodName := ⟨RX1, "<init>", "()V"⟩
abbrev cX1_begin : ByteArray := prog_3_method_2_code
def yX1_begin : MethodName := ⟨RX1, "begin", "(LShipFixtures$Ship;)V"⟩
abbrev cX1_bitsOfEarningsByTheDay : ByteArray := prog_3_method_3_code
def yX1_bitsOfEarningsByTheDay : MethodName := ⟨RX1, "bitsOfEarningsByTheDay", "()I"⟩
abbrev cX1_bitsOf : ByteArray := prog_3_method_4_code
def yX1_bitsOf : MethodName := ⟨RX1, "bitsOf", "(F)I"⟩
def RX2 : String := "ShipFixtures$Desk"
def TX2 : u_T := fun k => match k with
  | 0 => ("ShipFixtures$Desk", "x", "[I", true)
  | 1 => ("ShipFixtures$Desk", "y", "[I", true)
  | 2 => ("ShipFixtures$Desk", "ships", "[LShipFixtures$Ship;", true)
  | 3 => ("ShipFixtures$Desk", "cargoes", "[LShipFixtures$Cargo;", true)
  | 4 => ("ShipFixtures$Desk", "shipCount", "I", false)
  | 5 => ("ShipFixtures$Desk", "cargoCount", "I", false)
  | 6 => ("ShipFixtures$Desk", "cancelled", "I", false)
  | 7 => ("ShipFixtures$Desk", "calledOff", "I", false)
  | 8 => ("ShipFixtures$Desk", "course", "LShipFixtures$Course;", true)
  | 9 => ("ShipFixtures$Desk", "chosenShip", "I", false)
  | 10 => ("ShipFixtures$Desk", "chosenCargo", "I", false)
  | _ => ("ShipFixtures$Desk", "chosenEarns", "I", false)
def tyX2 : Nat → FieldType := fun k => match k with
  | 0 => .array .int
  | 1 => .array .int
  | 2 => .array (.object "ShipFixtures$Ship")
  | 3 => .array (.object "ShipFixtures$Cargo")
  | 4 => .int
  | 5 => .int
  | 6 => .int
  | 7 => .int
  | 8 => .object "ShipFixtures$Course"
  | 9 => .int
  | 10 => .int
  | _ => .int
abbrev wsX20 : List Cond := u_ws RX2 TX2 12
theorem nmX2 : ∀ a, a < 12 → ∀ b, b < 12 → a ≠ b → (TX2 a).2.1 ≠ (TX2 b).2.1 := by decide +kernel
theorem tyX2_ok : ∀ k, k < 12 → parseFieldDescriptor (TX2 k).2.2.1 = some (tyX2 k) := by decide +kernel
abbrev cX2_init : ByteArray := prog_4_method_1_code
def yX2_init : MethodName := ⟨RX2, "<init>", "()V"⟩
abbrev cX2_copyFrom : ByteArray := prog_4_method_2_code
def yX2_copyFrom : MethodName := ⟨RX2, "copyFrom", "(LShipFixtures$Desk;)V"⟩
abbrev cX2_isShip : ByteArray := prog_4_method_3_code
def yX2_isShip : MethodName := ⟨RX2, "isShip", "(I)Z"⟩
abbrev cX2_isCargo : ByteArray := prog_4_method_4_code
def yX2_isCargo : MethodName := ⟨RX2, "isCargo", "(I)Z"⟩
abbrev cX2_movePort : ByteArray := prog_4_method_5_code
def yX2_movePort : MethodName := ⟨RX2, "movePort", "(III)I"⟩
abbrev cX2_addShip : ByteArray := prog_4_method_6_code
def yX2_addShip : MethodName := ⟨RX2, "addShip", "(IIIII)I"⟩
abbrev cX2_addCargo : ByteArray := prog_4_method_7_code
def yX2_addCargo : MethodName := ⟨RX2, "addCargo", "(IIIIII)I"⟩
abbrev cX2_fixShip : ByteArray := prog_4_method_8_code
def yX2_fixShip : MethodName := ⟨RX2, "fixShip", "(II)I"⟩
abbrev cX2_delayShip : ByteArray := prog_4_method_9_code
def yX2_delayShip : MethodName := ⟨RX2, "delayShip", "(II)I"⟩
abbrev cX2_callOffLast : ByteArray := prog_4_method_10_code
def yX2_callOffLast : MethodName := ⟨RX2, "callOffLast", "(I)I"⟩
abbrev cX2_settleShip : ByteArray := prog_4_method_11_code
def yX2_settleShip : MethodName := ⟨RX2, "settleShip", "(I)I"⟩
abbrev cX2_dropFixtures : ByteArray := prog_4_method_12_code
def yX2_dropFixtures : MethodName := ⟨RX2, "dropFixtures", "(LShipFixtures$Ship;II)V"⟩
abbrev cX2_between : ByteArray := prog_4_method_13_code
def yX2_between : MethodName := ⟨RX2, "between", "(II)I"⟩
abbrev cX2_follow : ByteArray := prog_4_method_14_code
def yX2_follow : MethodName := ⟨RX2, "follow", "(II)LShipFixtures$Course;"⟩
abbrev cX2_followAll : ByteArray := prog_4_method_15_code
def yX2_followAll : MethodName := ⟨RX2, "followAll", "(I)LShipFixtures$Course;"⟩
abbrev cX2_sail : ByteArray := prog_4_method_16_code
def yX2_sail : MethodName := ⟨RX2, "sail", "(LShipFixtures$Ship;I)V"⟩
abbrev cX2_hindrance : ByteArray := prog_4_method_17_code
def yX2_hindrance : MethodName := ⟨RX2, "hindrance", "(II)I"⟩
abbrev cX2_fixturesInTime : ByteArray := prog_4_method_18_code
def yX2_fixturesInTime : MethodName := ⟨RX2, "fixturesInTime", "(I)I"⟩
abbrev cX2_slackOf : ByteArray := prog_4_method_19_code
def yX2_slackOf : MethodName := ⟨RX2, "slackOf", "(I)I"⟩
abbrev cX2_choose : ByteArray := prog_4_method_20_code
def yX2_choose : MethodName := ⟨RX2, "choose", "(IIII)Z"⟩
abbrev cX2_chooseGainful : ByteArray := prog_4_method_21_code
def yX2_chooseGainful : MethodName := ⟨RX2, "chooseGainful", "()Z"⟩
abbrev cX2_cargoesThatAre : ByteArray := prog_4_method_22_code
def yX2_cargoesThatAre : MethodName := ⟨RX2, "cargoesThatAre", "(I)I"⟩
abbrev cX2_openCargoes : ByteArray := prog_4_method_23_code
def yX2_openCargoes : MethodName := ⟨RX2, "openCargoes", "()I"⟩
abbrev cX2_pairOf : ByteArray := prog_4_method_24_code
def yX2_pairOf : MethodName := ⟨RX2, "pairOf", "(I)J"⟩
abbrev cX2_accountsTogether : ByteArray := prog_4_method_25_code
def yX2_accountsTogether : MethodName := ⟨RX2, "accountsTogether", "()I"⟩
def RX3 : String := "ShipFixtures$Finding"
def TX3 : u_T := fun k => match k with
  | 0 => ("ShipFixtures$Finding", "orders", "I", false)
  | 1 => ("ShipFixtures$Finding", "position", "I", false)
  | 2 => ("ShipFixtures$Finding", "reason", "I", false)
  | _ => ("ShipFixtures$Finding", "cause", "I", false)
def tyX3 : Nat → FieldType := fun k => match k with
  | 0 => .int
  | 1 => .int
  | 2 => .int
  | _ => .int
abbrev wsX30 : List Cond := u_ws RX3 TX3 4
theorem nmX3 : ∀ a, a < 4 → ∀ b, b < 4 → a ≠ b → (TX3 a).2.1 ≠ (TX3 b).2.1 := by decide +kernel
theorem tyX3_ok : ∀ k, k < 4 → parseFieldDescriptor (TX3 k).2.2.1 = some (tyX3 k) := by decide +kernel
abbrev cX3_init : ByteArray := prog_5_method_1_code
def yX3_init : MethodName := ⟨RX3, "<init>", "()V"⟩
def RX4 : String := "ShipFixtures$History"
def TX4 : u_T := fun k => match k with
  | 0 => ("ShipFixtures$History", "states", "[LShipFixtures$Desk;", true)
  | _ => ("ShipFixtures$History", "size", "I", false)
def tyX4 : Nat → FieldType := fun k => match k with
  | 0 => .array (.object "ShipFixtures$Desk")
  | _ => .int
abbrev wsX40 : List Cond := u_ws RX4 TX4 2
theorem nmX4 : ∀ a, a < 2 → ∀ b, b < 2 → a ≠ b → (TX4 a).2.1 ≠ (TX4 b).2.1 := by decide +kernel
theorem tyX4_ok : ∀ k, k < 2 → parseFieldDescriptor (TX4 k).2.2.1 = some (tyX4 k) := by decide +kernel
abbrev cX4_init : ByteArray := prog_6_method_1_code
def yX4_init : MethodName := ⟨RX4, "<init>", "()V"⟩
abbrev cX4_record : ByteArray := prog_6_method_2_code
def yX4_record : MethodName := ⟨RX4, "record", "(LShipFixtures$Desk;)V"⟩
abbrev cX4_dropOldest : ByteArray := prog_6_method_3_code
def yX4_dropOldest : MethodName := ⟨RX4, "dropOldest", "()V"⟩
abbrev cX4_restore : ByteArray := prog_6_method_4_code
def yX4_restore : MethodName := ⟨RX4, "restore", "(LShipFixtures$Desk;)Z"⟩
def RX5 : String := "ShipFixtures$Script"
def TX5 : u_T := fun k => match k with
  | 0 => ("ShipFixtures$Script", "characters", "[C", true)
  | 1 => ("ShipFixtures$Script", "length", "I", false)
  | 2 => ("ShipFixtures$Script", "kind", "C", false)
  | 3 => ("ShipFixtures$Script", "numbers", "[I", true)
  | _ => ("ShipFixtures$Script", "end", "I", false)
def tyX5 : Nat → FieldType := fun k => match k with
  | 0 => .array .char
  | 1 => .int
  | 2 => .char
  | 3 => .array .int
  | _ => .int
abbrev wsX50 : List Cond := u_ws RX5 TX5 5
theorem nmX5 : ∀ a, a < 5 → ∀ b, b < 5 → a ≠ b → (TX5 a).2.1 ≠ (TX5 b).2.1 := by decide +kernel
theorem tyX5_ok : ∀ k, k < 5 → parseFieldDescriptor (TX5 k).2.2.1 = some (tyX5 k) := by decide +kernel
abbrev cX5_init : ByteArray := prog_7_method_1_code
def yX5_init : MethodName := ⟨RX5, "<init>", "()V"⟩
def RX6 : String := "ShipFixtures$Ship"
def TX6 : u_T := fun k => match k with
  | 0 => ("ShipFixtures$Ship", "size", "I", false)
  | 1 => ("ShipFixtures$Ship", "speed", "I", false)
  | 2 => ("ShipFixtures$Ship", "cost", "I", false)
  | 3 => ("ShipFixtures$Ship", "firstPort", "I", false)
  | 4 => ("ShipFixtures$Ship", "firstDay", "I", false)
  | 5 => ("ShipFixtures$Ship", "account", "I", false)
  | 6 => ("ShipFixtures$Ship", "fixtureCount", "I", false)
  | _ => ("ShipFixtures$Ship", "fixtures", "[I", true)
def tyX6 : Nat → FieldType := fun k => match k with
  | 0 => .int
  | 1 => .int
  | 2 => .int
  | 3 => .int
  | 4 => .int
  | 5 => .int
  | 6 => .int
  | _ => .array .int
abbrev wsX60 : List Cond := u_ws RX6 TX6 8
theorem nmX6 : ∀ a, a < 8 → ∀ b, b < 8 → a ≠ b → (TX6 a).2.1 ≠ (TX6 b).2.1 := by decide +kernel
theorem tyX6_ok : ∀ k, k < 8 → parseFieldDescriptor (TX6 k).2.2.1 = some (tyX6 k) := by decide +kernel
abbrev cX6_init : ByteArray := prog_8_method_1_code
def yX6_init : MethodName := ⟨RX6, "<init>", "()V"⟩
abbrev cX6_copyFrom : ByteArray := prog_8_method_2_code
def yX6_copyFrom : MethodName := ⟨RX6, "copyFrom", "(LShipFixtures$Ship;)V"⟩
def RX7 : String := "ShipFixtures"
def TX7 : u_T := fun k => match k with
  | 0 => ("ShipFixtures", "desk", "LShipFixtures$Desk;", true)
  | 1 => ("ShipFixtures", "trial", "LShipFixtures$Desk;", true)
  | 2 => ("ShipFixtures", "history", "LShipFixtures$History;", true)
  | 3 => ("ShipFixtures", "script", "LShipFixtures$Script;", true)
  | _ => ("ShipFixtures", "finding", "LShipFixtures$Finding;", true)
def tyX7 : Nat → FieldType := fun k => match k with
  | 0 => .object "ShipFixtures$Desk"
  | 1 => .object "ShipFixtures$Desk"
  | 2 => .object "ShipFixtures$History"
  | 3 => .object "ShipFixtures$Script"
  | _ => .object "ShipFixtures$Finding"
abbrev wsX70 : List Cond := u_ws RX7 TX7 5
theorem nmX7 : ∀ a, a < 5 → ∀ b, b < 5 → a ≠ b → (TX7 a).2.1 ≠ (TX7 b).2.1 := by decide +kernel
theorem tyX7_ok : ∀ k, k < 5 → parseFieldDescriptor (TX7 k).2.2.1 = some (tyX7 k) := by decide +kernel
abbrev cX7_init : ByteArray := prog_1_method_1_code
def yX7_init : MethodName := ⟨RX7, "<init>", "()V"⟩
abbrev cX7_port : ByteArray := prog_1_method_2_code
def yX7_port : MethodName := ⟨RX7, "port", "(III)I"⟩
abbrev cX7_ship : ByteArray := prog_1_method_3_code
def yX7_ship : MethodName := ⟨RX7, "ship", "(IIIII)I"⟩
abbrev cX7_cargo : ByteArray := prog_1_method_4_code
def yX7_cargo : MethodName := ⟨RX7, "cargo", "(IIIIII)I"⟩
abbrev cX7_fix : ByteArray := prog_1_method_5_code
def yX7_fix : MethodName := ⟨RX7, "fix", "(II)I"⟩
abbrev cX7_delay : ByteArray := prog_1_method_6_code
def yX7_delay : MethodName := ⟨RX7, "delay", "(II)I"⟩
abbrev cX7_callOff : ByteArray := prog_1_method_7_code
def yX7_callOff : MethodName := ⟨RX7, "callOff", "(I)I"⟩
abbrev cX7_settle : ByteArray := prog_1_method_8_code
def yX7_settle : MethodName := ⟨RX7, "settle", "(I)I"⟩
abbrev cX7_shipOf : ByteArray := prog_1_method_9_code
def yX7_shipOf : MethodName := ⟨RX7, "shipOf", "(II)I"⟩
abbrev cX7_cargoOf : ByteArray := prog_1_method_10_code
def yX7_cargoOf : MethodName := ⟨RX7, "cargoOf", "(II)I"⟩
abbrev cX7_fixtureOf : ByteArray := prog_1_method_11_code
def yX7_fixtureOf : MethodName := ⟨RX7, "fixtureOf", "(III)I"⟩
abbrev cX7_distance : ByteArray := prog_1_method_12_code
def yX7_distance : MethodName := ⟨RX7, "distance", "(II)I"⟩
abbrev cX7_voyage : ByteArray := prog_1_method_13_code
def yX7_voyage : MethodName := ⟨RX7, "voyage", "(III)I"⟩
abbrev cX7_bestCargo : ByteArray := prog_1_method_14_code
def yX7_bestCargo : MethodName := ⟨RX7, "bestCargo", "(I)I"⟩
abbrev cX7_plan : ByteArray := prog_1_method_16_code
def yX7_plan : MethodName := ⟨RX7, "plan", "(I)I"⟩
abbrev cX7_slack : ByteArray := prog_1_method_17_code
def yX7_slack : MethodName := ⟨RX7, "slack", "(I)I"⟩
abbrev cX7_count : ByteArray := prog_1_method_18_code
def yX7_count : MethodName := ⟨RX7, "count", "(I)I"⟩
abbrev cX7_undo : ByteArray := prog_1_method_19_code
def yX7_undo : MethodName := ⟨RX7, "undo", "()I"⟩
abbrev cX7_freshTrial : ByteArray := prog_1_method_24_code
def yX7_freshTrial : MethodName := ⟨RX7, "freshTrial", "()LShipFixtures$Desk;"⟩
abbrev cX7_keep : ByteArray := prog_1_method_25_code
def yX7_keep : MethodName := ⟨RX7, "keep", "(I)I"⟩
abbrev cX7_isIn : ByteArray := prog_1_method_28_code
def yX7_isIn : MethodName := ⟨RX7, "isIn", "(III)Z"⟩
abbrev cX7_isPort : ByteArray := prog_1_method_29_code
def yX7_isPort : MethodName := ⟨RX7, "isPort", "(I)Z"⟩
abbrev cX7_isError : ByteArray := prog_1_method_30_code
def yX7_isError : MethodName := ⟨RX7, "isError", "(I)Z"⟩
abbrev cX7_divideUp : ByteArray := prog_1_method_31_code
def yX7_divideUp : MethodName := ⟨RX7, "divideUp", "(II)I"⟩
def RX8 : String := "ShipFixturesModel"
def TX8 : u_T := fun k => match k with
  | _ => ("", "", "", false)
def tyX8 : Nat → FieldType := fun k => match k with
  | _ => .int
abbrev wsX80 : List Cond := u_ws RX8 TX8 0
theorem nmX8 : ∀ a, a < 0 → ∀ b, b < 0 → a ≠ b → (TX8 a).2.1 ≠ (TX8 b).2.1 := by decide +kernel
theorem tyX8_ok : ∀ k, k < 0 → parseFieldDescriptor (TX8 k).2.2.1 = some (tyX8 k) := by decide +kernel
def RJ13 : String := "java/lang/Long"
def TJ13 : u_T := fun k => match k with
  | _ => ("", "", "", false)
def tyJ13 : Nat → FieldType := fun k => match k with
  | _ => .int
abbrev wsJ130 : List Cond := u_ws RJ13 TJ13 0
theorem nmJ13 : ∀ a, a < 0 → ∀ b, b < 0 → a ≠ b → (TJ13 a).2.1 ≠ (TJ13 b).2.1 := by decide +kernel
theorem tyJ13_ok : ∀ k, k < 0 → parseFieldDescriptor (TJ13 k).2.2.1 = some (tyJ13 k) := by decide +kernel
abbrev cJ13_bitCount_95d88 : ByteArray := prog_11_method_50_code
def yJ13_bitCount_95d88 : MethodName := ⟨RJ13, "bitCount", "(J)I"⟩
def RJ9 : String := "java/lang/Math"
def TJ9 : u_T := fun k => match k with
  | _ => ("", "", "", false)
def tyJ9 : Nat → FieldType := fun k => match k with
  | _ => .int
abbrev wsJ90 : List Cond := u_ws RJ9 TJ9 0
theorem nmJ9 : ∀ a, a < 0 → ∀ b, b < 0 → a ≠ b → (TJ9 a).2.1 ≠ (TJ9 b).2.1 := by decide +kernel
theorem tyJ9_ok : ∀ k, k < 0 → parseFieldDescriptor (TJ9 k).2.2.1 = some (tyJ9 k) := by decide +kernel
abbrev cJ9_max_7cf53 : ByteArray := prog_12_method_65_code
def yJ9_max_7cf53 : MethodName := ⟨RJ9, "max", "(II)I"⟩
abbrev cJ9_min_7cf53 : ByteArray := prog_12_method_69_code
def yJ9_min_7cf53 : MethodName := ⟨RJ9, "min", "(II)I"⟩
def RJ10 : String := "java/lang/System"
def TJ10 : u_T := fun k => match k with
  | _ => ("", "", "", false)
def tyJ10 : Nat → FieldType := fun k => match k with
  | _ => .int
abbrev wsJ100 : List Cond := u_ws RJ10 TJ10 0
theorem nmJ10 : ∀ a, a < 0 → ∀ b, b < 0 → a ≠ b → (TJ10 a).2.1 ≠ (TJ10 b).2.1 := by decide +kernel
theorem tyJ10_ok : ∀ k, k < 0 → parseFieldDescriptor (TJ10 k).2.2.1 = some (tyJ10 k) := by decide +kernel
def RL : String := "ShipFixturesLaw"
abbrev cL_cell : ByteArray := method_2_code
def yL_cell : MethodName := ⟨RL, "cell", "([II)I"⟩
abbrev cL_hangs : ByteArray := method_3_code
def yL_hangs : MethodName := ⟨RL, "hangs", "(LShipFixtures;I)Z"⟩
abbrev cL_all : ByteArray := method_4_code
def yL_all : MethodName := ⟨RL, "all", "(LShipFixtures;)Z"⟩
abbrev cL_law : ByteArray := code
def yL_law : MethodName := ⟨RL, "law", "([I)Z"⟩
/-- the tables' words that a callee may be handed -/
def AL : List Cond := lw_tbl.filter goodWord
theorem al_good : AL.all goodWord = true := by
  refine List.all_eq_true.mpr (fun w h => ?_)
  exact (List.mem_filter.mp h).2
theorem al_in : ∀ w ∈ AL, w ∈ lw_tbl := fun w h => (List.mem_filter.mp h).1
theorem al_mem {w : Cond} (i : Nat) (h : lw_tbl[i]? = some w ∧ goodWord w = true) : w ∈ AL := List.mem_filter.mpr ⟨List.mem_of_getElem? h.1, h.2⟩
theorem al_sub (ws : List Cond) (ps : List Nat) (hp : ws = ps.filterMap (fun i => lw_tbl[i]?)) (h : ws.all goodWord = true) : ∀ w ∈ ws, w ∈ AL := fun w hw => List.mem_filter.mpr ⟨((goodIn_r ws ps hp h) w hw).1, List.all_eq_true.mp h w hw⟩
theorem al_gv {own : String} {idx : Nat} {C : String} {y : MethodName} {cw : Cond} (h1 : Cond.methodLink own idx y ∈ AL) (h2 : Cond.instanceMethod y ∈ AL) (h3 : Cond.selects C y y ∈ AL) (h4 : Cond.initialized C ∈ AL) (h5 : cw ∈ AL) : GoodIn AL (wsV own idx C y (cw :: AL)) := by
  intro w hw
  have hm : w ∈ AL := by
    rcases List.mem_append.mp hw with h | h
    · simp only [List.mem_cons, List.not_mem_nil, or_false] at h
      rcases h with h | h | h | h <;> subst h <;> assumption
    · rcases List.mem_cons.mp h with h | h
      · subst h; exact h5
      · exact h
  exact ⟨hm, good_of_word (List.all_eq_true.mp al_good w hm)⟩
theorem al_gs {own : String} {idx : Nat} {y : MethodName} {cw : Cond} (h1 : Cond.methodLink own idx y ∈ AL) (h2 : Cond.static y ∈ AL) (h4 : Cond.initialized y.cls ∈ AL) (h5 : cw ∈ AL) : GoodIn AL (va_wsS own idx y (cw :: AL)) := by
  intro w hw
  have hm : w ∈ AL := by
    rcases List.mem_append.mp hw with h | h
    · simp only [List.mem_cons, List.not_mem_nil, or_false] at h
      rcases h with h | h | h <;> subst h <;> assumption
    · rcases List.mem_cons.mp h with h | h
      · subst h; exact h5
      · exact h
  exact ⟨hm, good_of_word (List.all_eq_true.mp al_good w hm)⟩
theorem al_g {cw : Cond} (h5 : cw ∈ AL) : GoodIn AL (cw :: AL) := by
  intro w hw
  have hm : w ∈ AL := by
    rcases List.mem_cons.mp hw with h | h
    · subst h; exact h5
    · exact h
  exact ⟨hm, good_of_word (List.all_eq_true.mp al_good w hm)⟩
theorem al_nest : (lw_tbl.filter (fun w => match w with | .methodLinkNest .. => true | _ => false)).length = 8 := by decide +kernel
theorem iA_X0 : ∀ w ∈ wsX00, w ∈ AL := al_sub _ [158, 160, 162, 164, 166, 168, 170, 172] (by decide +kernel) (by decide +kernel)
theorem iA_X1 : ∀ w ∈ wsX10, w ∈ AL := al_sub _ [63, 65, 67, 69, 71, 73, 75, 77] (by decide +kernel) (by decide +kernel)
theorem iA_X2 : ∀ w ∈ wsX20, w ∈ AL := al_sub _ [197, 199, 201, 203, 205, 207, 209, 211, 213, 215, 217, 219] (by decide +kernel) (by decide +kernel)
theorem iA_X3 : ∀ w ∈ wsX30, w ∈ AL := al_sub _ [266, 268, 270, 272] (by decide +kernel) (by decide +kernel)
theorem iA_X4 : ∀ w ∈ wsX40, w ∈ AL := al_sub _ [234, 236] (by decide +kernel) (by decide +kernel)
theorem iA_X5 : ∀ w ∈ wsX50, w ∈ AL := al_sub _ [248, 250, 252, 254, 256] (by decide +kernel) (by decide +kernel)
theorem iA_X6 : ∀ w ∈ wsX60, w ∈ AL := al_sub _ [112, 114, 116, 118, 120, 122, 124, 126] (by decide +kernel) (by decide +kernel)
theorem iA_X7 : ∀ w ∈ wsX70, w ∈ AL := al_sub _ [280, 282, 284, 286, 288] (by decide +kernel) (by decide +kernel)
theorem qS_X7_freshTrial : (.selects RX7 yX7_freshTrial yX7_freshTrial : Cond) ∈ AL := al_mem 0 (by decide +kernel)
theorem qS_X7_keep : (.selects RX7 yX7_keep yX7_keep : Cond) ∈ AL := al_mem 1 (by decide +kernel)
theorem qS_X4_dropOldest : (.selects RX4 yX4_dropOldest yX4_dropOldest : Cond) ∈ AL := al_mem 2 (by decide +kernel)
theorem qS_X2_sail : (.selects RX2 yX2_sail yX2_sail : Cond) ∈ AL := al_mem 3 (by decide +kernel)
theorem qS_X2_fixturesInTime : (.selects RX2 yX2_fixturesInTime yX2_fixturesInTime : Cond) ∈ AL := al_mem 4 (by decide +kernel)
theorem qS_X2_dropFixtures : (.selects RX2 yX2_dropFixtures yX2_dropFixtures : Cond) ∈ AL := al_mem 5 (by decide +kernel)
theorem qi_L : (.initialized RL : Cond) ∈ AL := al_mem 6 (by decide +kernel)
theorem qi_X7 : (.initialized RX7 : Cond) ∈ AL := al_mem 7 (by decide +kernel)
theorem qi_X2 : (.initialized RX2 : Cond) ∈ AL := al_mem 8 (by decide +kernel)
theorem qi_X1 : (.initialized RX1 : Cond) ∈ AL := al_mem 9 (by decide +kernel)
theorem qi_X6 : (.initialized RX6 : Cond) ∈ AL := al_mem 10 (by decide +kernel)
theorem qi_X0 : (.initialized RX0 : Cond) ∈ AL := al_mem 11 (by decide +kernel)
theorem qi_X4 : (.initialized RX4 : Cond) ∈ AL := al_mem 12 (by decide +kernel)
theorem qi_X5 : (.initialized RX5 : Cond) ∈ AL := al_mem 13 (by decide +kernel)
theorem qi_X3 : (.initialized RX3 : Cond) ∈ AL := al_mem 14 (by decide +kernel)
theorem qi_J9 : (.initialized RJ9 : Cond) ∈ AL := al_mem 15 (by decide +kernel)
theorem qi_J10 : (.initialized RJ10 : Cond) ∈ AL := al_mem 16 (by decide +kernel)
theorem qi_J13 : (.initialized RJ13 : Cond) ∈ AL := al_mem 17 (by decide +kernel)
theorem qK_L_9 : (.classLink RL 9 RX7 : Cond) ∈ AL := al_mem 18 (by decide +kernel)
theorem qn_X7 : (.instantiable RX7 5 : Cond) ∈ AL := al_mem 19 (by decide +kernel)
theorem qM_L_39 : (.methodLink RL 39 yX7_init : Cond) ∈ AL := al_mem 20 (by decide +kernel)
theorem qI_X7_init : (.instanceMethod yX7_init : Cond) ∈ AL := al_mem 21 (by decide +kernel)
theorem qC_X7_init : (.code yX7_init cX7_init 1 none : Cond) ∈ AL := al_mem 22 (by decide +kernel)
theorem qM_X7_1 : (.methodLink RX7 1 objectInit : Cond) ∈ AL := al_mem 23 (by decide +kernel)
theorem qI_O_init : (.instanceMethod objectInit : Cond) ∈ AL := al_mem 24 (by decide +kernel)
theorem qC_O_init : (.code objectInit ⟨#[0xb1]⟩ 1 none : Cond) ∈ AL := al_mem 25 (by decide +kernel)
theorem qK_X7_7 : (.classLink RX7 7 RX2 : Cond) ∈ AL := al_mem 26 (by decide +kernel)
theorem qn_X2 : (.instantiable RX2 12 : Cond) ∈ AL := al_mem 27 (by decide +kernel)
theorem qM_X7_9 : (.methodLink RX7 9 yX2_init : Cond) ∈ AL := al_mem 28 (by decide +kernel)
theorem qI_X2_init : (.instanceMethod yX2_init : Cond) ∈ AL := al_mem 29 (by decide +kernel)
theorem qC_X2_init : (.code yX2_init cX2_init 2 none : Cond) ∈ AL := al_mem 30 (by decide +kernel)
theorem qM_X2_3 : (.methodLink RX2 3 objectInit : Cond) ∈ AL := al_mem 31 (by decide +kernel)
theorem qK_X2_18 : (.classLink RX2 18 RX6 : Cond) ∈ AL := al_mem 32 (by decide +kernel)
theorem qK_X2_24 : (.classLink RX2 24 RX0 : Cond) ∈ AL := al_mem 34 (by decide +kernel)
theorem qK_X2_30 : (.classLink RX2 30 RX1 : Cond) ∈ AL := al_mem 36 (by decide +kernel)
theorem qn_X1 : (.instantiable RX1 8 : Cond) ∈ AL := al_mem 37 (by decide +kernel)
theorem qI_X1_init : (.instanceMethod yX1_init : Cond) ∈ AL := al_mem 39 (by decide +kernel)
theorem qC_X1_init : (.code yX1_init cX1_init 1 none : Cond) ∈ AL := al_mem 40 (by decide +kernel)
theorem qM_X1_3 : (.methodLink RX1 3 objectInit : Cond) ∈ AL := al_mem 41 (by decide +kernel)
theorem qF_X1_15 : (.fieldLink RX1 15 "ShipFixtures$Course" "port" "I" : Cond) ∈ AL := al_mem 42 (by decide +kernel)
theorem qF_X7_98 : (.fieldLink RX7 98 "ShipFixtures$Course" "port" "I" : Cond) ∈ AL := al_mem 43 (by decide +kernel)
theorem qF_X2_162 : (.fieldLink RX2 162 "ShipFixtures$Course" "port" "I" : Cond) ∈ AL := al_mem 44 (by decide +kernel)
theorem qF_X1_23 : (.fieldLink RX1 23 "ShipFixtures$Course" "day" "I" : Cond) ∈ AL := al_mem 45 (by decide +kernel)
theorem qF_X2_135 : (.fieldLink RX2 135 "ShipFixtures$Course" "day" "I" : Cond) ∈ AL := al_mem 46 (by decide +kernel)
theorem qF_X7_103 : (.fieldLink RX7 103 "ShipFixtures$Course" "day" "I" : Cond) ∈ AL := al_mem 47 (by decide +kernel)
theorem qF_X7_168 : (.fieldLink RX7 168 "ShipFixtures$Course" "arrival" "I" : Cond) ∈ AL := al_mem 48 (by decide +kernel)
theorem qF_X2_180 : (.fieldLink RX2 180 "ShipFixtures$Course" "arrival" "I" : Cond) ∈ AL := al_mem 49 (by decide +kernel)
theorem qF_X7_171 : (.fieldLink RX7 171 "ShipFixtures$Course" "loading" "I" : Cond) ∈ AL := al_mem 50 (by decide +kernel)
theorem qF_X2_191 : (.fieldLink RX2 191 "ShipFixtures$Course" "loading" "I" : Cond) ∈ AL := al_mem 51 (by decide +kernel)
theorem qF_X1_29 : (.fieldLink RX1 29 "ShipFixtures$Course" "days" "I" : Cond) ∈ AL := al_mem 52 (by decide +kernel)
theorem qF_X7_193 : (.fieldLink RX7 193 "ShipFixtures$Course" "days" "I" : Cond) ∈ AL := al_mem 53 (by decide +kernel)
theorem qF_X2_194 : (.fieldLink RX2 194 "ShipFixtures$Course" "days" "I" : Cond) ∈ AL := al_mem 54 (by decide +kernel)
theorem qF_X1_32 : (.fieldLink RX1 32 "ShipFixtures$Course" "earns" "I" : Cond) ∈ AL := al_mem 55 (by decide +kernel)
theorem qF_X7_174 : (.fieldLink RX7 174 "ShipFixtures$Course" "earns" "I" : Cond) ∈ AL := al_mem 56 (by decide +kernel)
theorem qF_X2_197 : (.fieldLink RX2 197 "ShipFixtures$Course" "earns" "I" : Cond) ∈ AL := al_mem 57 (by decide +kernel)
theorem qF_X1_26 : (.fieldLink RX1 26 "ShipFixtures$Course" "earnsTogether" "I" : Cond) ∈ AL := al_mem 58 (by decide +kernel)
theorem qF_X7_119 : (.fieldLink RX7 119 "ShipFixtures$Course" "earnsTogether" "I" : Cond) ∈ AL := al_mem 59 (by decide +kernel)
theorem qF_X2_159 : (.fieldLink RX2 159 "ShipFixtures$Course" "earnsTogether" "I" : Cond) ∈ AL := al_mem 60 (by decide +kernel)
theorem qF_X7_177 : (.fieldLink RX7 177 "ShipFixtures$Course" "margin" "I" : Cond) ∈ AL := al_mem 61 (by decide +kernel)
theorem qF_X2_183 : (.fieldLink RX2 183 "ShipFixtures$Course" "margin" "I" : Cond) ∈ AL := al_mem 62 (by decide +kernel)
theorem qA_int : (.arrayClass .int : Cond) ∈ AL := al_mem 80 (by decide +kernel)
theorem qn_X6 : (.instantiable RX6 8 : Cond) ∈ AL := al_mem 81 (by decide +kernel)
theorem qI_X6_init : (.instanceMethod yX6_init : Cond) ∈ AL := al_mem 83 (by decide +kernel)
theorem qC_X6_init : (.code yX6_init cX6_init 1 none : Cond) ∈ AL := al_mem 84 (by decide +kernel)
theorem qM_X6_3 : (.methodLink RX6 3 objectInit : Cond) ∈ AL := al_mem 85 (by decide +kernel)
theorem qF_X6_15 : (.fieldLink RX6 15 "ShipFixtures$Ship" "size" "I" : Cond) ∈ AL := al_mem 86 (by decide +kernel)
theorem qF_X2_80 : (.fieldLink RX2 80 "ShipFixtures$Ship" "size" "I" : Cond) ∈ AL := al_mem 87 (by decide +kernel)
theorem qF_X7_82 : (.fieldLink RX7 82 "ShipFixtures$Ship" "size" "I" : Cond) ∈ AL := al_mem 88 (by decide +kernel)
theorem qF_X6_19 : (.fieldLink RX6 19 "ShipFixtures$Ship" "speed" "I" : Cond) ∈ AL := al_mem 89 (by decide +kernel)
theorem qF_X2_83 : (.fieldLink RX2 83 "ShipFixtures$Ship" "speed" "I" : Cond) ∈ AL := al_mem 90 (by decide +kernel)
theorem qF_X7_88 : (.fieldLink RX7 88 "ShipFixtures$Ship" "speed" "I" : Cond) ∈ AL := al_mem 91 (by decide +kernel)
theorem qF_X6_22 : (.fieldLink RX6 22 "ShipFixtures$Ship" "cost" "I" : Cond) ∈ AL := al_mem 92 (by decide +kernel)
theorem qF_X2_86 : (.fieldLink RX2 86 "ShipFixtures$Ship" "cost" "I" : Cond) ∈ AL := al_mem 93 (by decide +kernel)
theorem qF_X7_91 : (.fieldLink RX7 91 "ShipFixtures$Ship" "cost" "I" : Cond) ∈ AL := al_mem 94 (by decide +kernel)
theorem qF_X1_9 : (.fieldLink RX1 9 "ShipFixtures$Ship" "firstPort" "I" : Cond) ∈ AL := al_mem 95 (by decide +kernel)
theorem qF_X6_25 : (.fieldLink RX6 25 "ShipFixtures$Ship" "firstPort" "I" : Cond) ∈ AL := al_mem 96 (by decide +kernel)
theorem qF_X2_89 : (.fieldLink RX2 89 "ShipFixtures$Ship" "firstPort" "I" : Cond) ∈ AL := al_mem 97 (by decide +kernel)
theorem qF_X7_106 : (.fieldLink RX7 106 "ShipFixtures$Ship" "firstPort" "I" : Cond) ∈ AL := al_mem 98 (by decide +kernel)
theorem qF_X1_20 : (.fieldLink RX1 20 "ShipFixtures$Ship" "firstDay" "I" : Cond) ∈ AL := al_mem 99 (by decide +kernel)
theorem qF_X6_28 : (.fieldLink RX6 28 "ShipFixtures$Ship" "firstDay" "I" : Cond) ∈ AL := al_mem 100 (by decide +kernel)
theorem qF_X2_92 : (.fieldLink RX2 92 "ShipFixtures$Ship" "firstDay" "I" : Cond) ∈ AL := al_mem 101 (by decide +kernel)
theorem qF_X7_109 : (.fieldLink RX7 109 "ShipFixtures$Ship" "firstDay" "I" : Cond) ∈ AL := al_mem 102 (by decide +kernel)
theorem qF_X6_31 : (.fieldLink RX6 31 "ShipFixtures$Ship" "account" "I" : Cond) ∈ AL := al_mem 103 (by decide +kernel)
theorem qF_X7_115 : (.fieldLink RX7 115 "ShipFixtures$Ship" "account" "I" : Cond) ∈ AL := al_mem 104 (by decide +kernel)
theorem qF_X2_152 : (.fieldLink RX2 152 "ShipFixtures$Ship" "account" "I" : Cond) ∈ AL := al_mem 105 (by decide +kernel)
theorem qF_X6_34 : (.fieldLink RX6 34 "ShipFixtures$Ship" "fixtureCount" "I" : Cond) ∈ AL := al_mem 106 (by decide +kernel)
theorem qF_X2_126 : (.fieldLink RX2 126 "ShipFixtures$Ship" "fixtureCount" "I" : Cond) ∈ AL := al_mem 107 (by decide +kernel)
theorem qF_X7_112 : (.fieldLink RX7 112 "ShipFixtures$Ship" "fixtureCount" "I" : Cond) ∈ AL := al_mem 108 (by decide +kernel)
theorem qF_X6_9 : (.fieldLink RX6 9 "ShipFixtures$Ship" "fixtures" "[I" : Cond) ∈ AL := al_mem 109 (by decide +kernel)
theorem qF_X2_129 : (.fieldLink RX2 129 "ShipFixtures$Ship" "fixtures" "[I" : Cond) ∈ AL := al_mem 110 (by decide +kernel)
theorem qF_X7_164 : (.fieldLink RX7 164 "ShipFixtures$Ship" "fixtures" "[I" : Cond) ∈ AL := al_mem 111 (by decide +kernel)
theorem qn_X0 : (.instantiable RX0 8 : Cond) ∈ AL := al_mem 129 (by decide +kernel)
theorem qI_X0_init : (.instanceMethod yX0_init : Cond) ∈ AL := al_mem 131 (by decide +kernel)
theorem qC_X0_init : (.code yX0_init cX0_init 1 none : Cond) ∈ AL := al_mem 132 (by decide +kernel)
theorem qM_X0_1 : (.methodLink RX0 1 objectInit : Cond) ∈ AL := al_mem 133 (by decide +kernel)
theorem qF_X0_7 : (.fieldLink RX0 7 "ShipFixtures$Cargo" "amount" "I" : Cond) ∈ AL := al_mem 134 (by decide +kernel)
theorem qF_X2_95 : (.fieldLink RX2 95 "ShipFixtures$Cargo" "amount" "I" : Cond) ∈ AL := al_mem 135 (by decide +kernel)
theorem qF_X7_129 : (.fieldLink RX7 129 "ShipFixtures$Cargo" "amount" "I" : Cond) ∈ AL := al_mem 136 (by decide +kernel)
theorem qF_X0_13 : (.fieldLink RX0 13 "ShipFixtures$Cargo" "loads" "I" : Cond) ∈ AL := al_mem 137 (by decide +kernel)
theorem qF_X2_98 : (.fieldLink RX2 98 "ShipFixtures$Cargo" "loads" "I" : Cond) ∈ AL := al_mem 138 (by decide +kernel)
theorem qF_X7_134 : (.fieldLink RX7 134 "ShipFixtures$Cargo" "loads" "I" : Cond) ∈ AL := al_mem 139 (by decide +kernel)
theorem qF_X0_16 : (.fieldLink RX0 16 "ShipFixtures$Cargo" "unloads" "I" : Cond) ∈ AL := al_mem 140 (by decide +kernel)
theorem qF_X2_101 : (.fieldLink RX2 101 "ShipFixtures$Cargo" "unloads" "I" : Cond) ∈ AL := al_mem 141 (by decide +kernel)
theorem qF_X7_137 : (.fieldLink RX7 137 "ShipFixtures$Cargo" "unloads" "I" : Cond) ∈ AL := al_mem 142 (by decide +kernel)
theorem qF_X0_19 : (.fieldLink RX0 19 "ShipFixtures$Cargo" "first" "I" : Cond) ∈ AL := al_mem 143 (by decide +kernel)
theorem qF_X2_104 : (.fieldLink RX2 104 "ShipFixtures$Cargo" "first" "I" : Cond) ∈ AL := al_mem 144 (by decide +kernel)
theorem qF_X7_140 : (.fieldLink RX7 140 "ShipFixtures$Cargo" "first" "I" : Cond) ∈ AL := al_mem 145 (by decide +kernel)
theorem qF_X0_22 : (.fieldLink RX0 22 "ShipFixtures$Cargo" "last" "I" : Cond) ∈ AL := al_mem 146 (by decide +kernel)
theorem qF_X2_107 : (.fieldLink RX2 107 "ShipFixtures$Cargo" "last" "I" : Cond) ∈ AL := al_mem 147 (by decide +kernel)
theorem qF_X7_143 : (.fieldLink RX7 143 "ShipFixtures$Cargo" "last" "I" : Cond) ∈ AL := al_mem 148 (by decide +kernel)
theorem qF_X0_25 : (.fieldLink RX0 25 "ShipFixtures$Cargo" "freight" "I" : Cond) ∈ AL := al_mem 149 (by decide +kernel)
theorem qF_X2_110 : (.fieldLink RX2 110 "ShipFixtures$Cargo" "freight" "I" : Cond) ∈ AL := al_mem 150 (by decide +kernel)
theorem qF_X7_146 : (.fieldLink RX7 146 "ShipFixtures$Cargo" "freight" "I" : Cond) ∈ AL := al_mem 151 (by decide +kernel)
theorem qF_X0_28 : (.fieldLink RX0 28 "ShipFixtures$Cargo" "state" "I" : Cond) ∈ AL := al_mem 152 (by decide +kernel)
theorem qF_X2_119 : (.fieldLink RX2 119 "ShipFixtures$Cargo" "state" "I" : Cond) ∈ AL := al_mem 153 (by decide +kernel)
theorem qF_X7_149 : (.fieldLink RX7 149 "ShipFixtures$Cargo" "state" "I" : Cond) ∈ AL := al_mem 154 (by decide +kernel)
theorem qF_X0_31 : (.fieldLink RX0 31 "ShipFixtures$Cargo" "ship" "I" : Cond) ∈ AL := al_mem 155 (by decide +kernel)
theorem qF_X2_132 : (.fieldLink RX2 132 "ShipFixtures$Cargo" "ship" "I" : Cond) ∈ AL := al_mem 156 (by decide +kernel)
theorem qF_X7_152 : (.fieldLink RX7 152 "ShipFixtures$Cargo" "ship" "I" : Cond) ∈ AL := al_mem 157 (by decide +kernel)
theorem qF_X2_9 : (.fieldLink RX2 9 "ShipFixtures$Desk" "x" "[I" : Cond) ∈ AL := al_mem 175 (by decide +kernel)
theorem qF_X2_15 : (.fieldLink RX2 15 "ShipFixtures$Desk" "y" "[I" : Cond) ∈ AL := al_mem 176 (by decide +kernel)
theorem qF_X2_20 : (.fieldLink RX2 20 "ShipFixtures$Desk" "ships" "[LShipFixtures$Ship;" : Cond) ∈ AL := al_mem 177 (by decide +kernel)
theorem qF_X7_78 : (.fieldLink RX7 78 "ShipFixtures$Desk" "ships" "[LShipFixtures$Ship;" : Cond) ∈ AL := al_mem 178 (by decide +kernel)
theorem qF_X2_26 : (.fieldLink RX2 26 "ShipFixtures$Desk" "cargoes" "[LShipFixtures$Cargo;" : Cond) ∈ AL := al_mem 179 (by decide +kernel)
theorem qF_X7_125 : (.fieldLink RX7 125 "ShipFixtures$Desk" "cargoes" "[LShipFixtures$Cargo;" : Cond) ∈ AL := al_mem 180 (by decide +kernel)
theorem qF_X2_52 : (.fieldLink RX2 52 "ShipFixtures$Desk" "shipCount" "I" : Cond) ∈ AL := al_mem 181 (by decide +kernel)
theorem qF_X7_211 : (.fieldLink RX7 211 "ShipFixtures$Desk" "shipCount" "I" : Cond) ∈ AL := al_mem 182 (by decide +kernel)
theorem qF_X2_56 : (.fieldLink RX2 56 "ShipFixtures$Desk" "cargoCount" "I" : Cond) ∈ AL := al_mem 183 (by decide +kernel)
theorem qF_X7_200 : (.fieldLink RX7 200 "ShipFixtures$Desk" "cargoCount" "I" : Cond) ∈ AL := al_mem 184 (by decide +kernel)
theorem qF_X2_59 : (.fieldLink RX2 59 "ShipFixtures$Desk" "cancelled" "I" : Cond) ∈ AL := al_mem 185 (by decide +kernel)
theorem qF_X7_246 : (.fieldLink RX7 246 "ShipFixtures$Desk" "cancelled" "I" : Cond) ∈ AL := al_mem 186 (by decide +kernel)
theorem qF_X2_62 : (.fieldLink RX2 62 "ShipFixtures$Desk" "calledOff" "I" : Cond) ∈ AL := al_mem 187 (by decide +kernel)
theorem qF_X7_249 : (.fieldLink RX7 249 "ShipFixtures$Desk" "calledOff" "I" : Cond) ∈ AL := al_mem 188 (by decide +kernel)
theorem qF_X2_33 : (.fieldLink RX2 33 "ShipFixtures$Desk" "course" "LShipFixtures$Course;" : Cond) ∈ AL := al_mem 189 (by decide +kernel)
theorem qF_X7_189 : (.fieldLink RX7 189 "ShipFixtures$Desk" "course" "LShipFixtures$Course;" : Cond) ∈ AL := al_mem 190 (by decide +kernel)
theorem qF_X7_214 : (.fieldLink RX7 214 "ShipFixtures$Desk" "chosenShip" "I" : Cond) ∈ AL := al_mem 191 (by decide +kernel)
theorem qF_X2_207 : (.fieldLink RX2 207 "ShipFixtures$Desk" "chosenShip" "I" : Cond) ∈ AL := al_mem 192 (by decide +kernel)
theorem qF_X7_207 : (.fieldLink RX7 207 "ShipFixtures$Desk" "chosenCargo" "I" : Cond) ∈ AL := al_mem 193 (by decide +kernel)
theorem qF_X2_210 : (.fieldLink RX2 210 "ShipFixtures$Desk" "chosenCargo" "I" : Cond) ∈ AL := al_mem 194 (by decide +kernel)
theorem qF_X7_221 : (.fieldLink RX7 221 "ShipFixtures$Desk" "chosenEarns" "I" : Cond) ∈ AL := al_mem 195 (by decide +kernel)
theorem qF_X2_204 : (.fieldLink RX2 204 "ShipFixtures$Desk" "chosenEarns" "I" : Cond) ∈ AL := al_mem 196 (by decide +kernel)
theorem qK_X7_19 : (.classLink RX7 19 RX4 : Cond) ∈ AL := al_mem 222 (by decide +kernel)
theorem qn_X4 : (.instantiable RX4 2 : Cond) ∈ AL := al_mem 223 (by decide +kernel)
theorem qM_X7_21 : (.methodLink RX7 21 yX4_init : Cond) ∈ AL := al_mem 224 (by decide +kernel)
theorem qI_X4_init : (.instanceMethod yX4_init : Cond) ∈ AL := al_mem 225 (by decide +kernel)
theorem qC_X4_init : (.code yX4_init cX4_init 2 none : Cond) ∈ AL := al_mem 226 (by decide +kernel)
theorem qM_X4_3 : (.methodLink RX4 3 objectInit : Cond) ∈ AL := al_mem 227 (by decide +kernel)
theorem qK_X4_9 : (.classLink RX4 9 RX2 : Cond) ∈ AL := al_mem 228 (by decide +kernel)
theorem qM_X4_17 : (.methodLink RX4 17 yX2_init : Cond) ∈ AL := al_mem 230 (by decide +kernel)
theorem qF_X4_11 : (.fieldLink RX4 11 "ShipFixtures$History" "states" "[LShipFixtures$Desk;" : Cond) ∈ AL := al_mem 231 (by decide +kernel)
theorem qF_X4_18 : (.fieldLink RX4 18 "ShipFixtures$History" "size" "I" : Cond) ∈ AL := al_mem 232 (by decide +kernel)
theorem qF_X7_252 : (.fieldLink RX7 252 "ShipFixtures$History" "size" "I" : Cond) ∈ AL := al_mem 233 (by decide +kernel)
theorem qK_X7_26 : (.classLink RX7 26 RX5 : Cond) ∈ AL := al_mem 239 (by decide +kernel)
theorem qn_X5 : (.instantiable RX5 5 : Cond) ∈ AL := al_mem 240 (by decide +kernel)
theorem qI_X5_init : (.instanceMethod yX5_init : Cond) ∈ AL := al_mem 242 (by decide +kernel)
theorem qC_X5_init : (.code yX5_init cX5_init 1 none : Cond) ∈ AL := al_mem 243 (by decide +kernel)
theorem qM_X5_3 : (.methodLink RX5 3 objectInit : Cond) ∈ AL := al_mem 244 (by decide +kernel)
theorem qF_X5_9 : (.fieldLink RX5 9 "ShipFixtures$Script" "characters" "[C" : Cond) ∈ AL := al_mem 245 (by decide +kernel)
theorem qF_X7_253 : (.fieldLink RX7 253 "ShipFixtures$Script" "length" "I" : Cond) ∈ AL := al_mem 246 (by decide +kernel)
theorem qF_X5_15 : (.fieldLink RX5 15 "ShipFixtures$Script" "numbers" "[I" : Cond) ∈ AL := al_mem 247 (by decide +kernel)
theorem qA_char : (.arrayClass .char : Cond) ∈ AL := al_mem 259 (by decide +kernel)
theorem qK_X7_33 : (.classLink RX7 33 RX3 : Cond) ∈ AL := al_mem 260 (by decide +kernel)
theorem qn_X3 : (.instantiable RX3 4 : Cond) ∈ AL := al_mem 261 (by decide +kernel)
theorem qI_X3_init : (.instanceMethod yX3_init : Cond) ∈ AL := al_mem 263 (by decide +kernel)
theorem qC_X3_init : (.code yX3_init cX3_init 1 none : Cond) ∈ AL := al_mem 264 (by decide +kernel)
theorem qM_X3_1 : (.methodLink RX3 1 objectInit : Cond) ∈ AL := al_mem 265 (by decide +kernel)
theorem qF_X7_10 : (.fieldLink RX7 10 "ShipFixtures" "desk" "LShipFixtures$Desk;" : Cond) ∈ AL := al_mem 275 (by decide +kernel)
theorem qF_X7_16 : (.fieldLink RX7 16 "ShipFixtures" "trial" "LShipFixtures$Desk;" : Cond) ∈ AL := al_mem 276 (by decide +kernel)
theorem qF_X7_22 : (.fieldLink RX7 22 "ShipFixtures" "history" "LShipFixtures$History;" : Cond) ∈ AL := al_mem 277 (by decide +kernel)
theorem qF_X7_29 : (.fieldLink RX7 29 "ShipFixtures" "script" "LShipFixtures$Script;" : Cond) ∈ AL := al_mem 278 (by decide +kernel)
theorem qF_X7_36 : (.fieldLink RX7 36 "ShipFixtures" "finding" "LShipFixtures$Finding;" : Cond) ∈ AL := al_mem 279 (by decide +kernel)
theorem qM_L_83 : (.methodLink RL 83 yX7_port : Cond) ∈ AL := al_mem 291 (by decide +kernel)
theorem qI_X7_port : (.instanceMethod yX7_port : Cond) ∈ AL := al_mem 292 (by decide +kernel)
theorem qS_X7_port : (.selects RX7 yX7_port yX7_port : Cond) ∈ AL := al_mem 293 (by decide +kernel)
theorem qC_X7_port : (.code yX7_port cX7_port 4 (some .int) : Cond) ∈ AL := al_mem 294 (by decide +kernel)
theorem qM_X7_40 : (.methodLink RX7 40 yX7_freshTrial : Cond) ∈ AL := al_mem 295 (by decide +kernel)
theorem qI_X7_freshTrial : (.instanceMethod yX7_freshTrial : Cond) ∈ AL := al_mem 297 (by decide +kernel)
theorem qC_X7_freshTrial : (.code yX7_freshTrial cX7_freshTrial 1 (some (.object "ShipFixtures$Desk")) : Cond) ∈ AL := al_mem 298 (by decide +kernel)
theorem qM_X7_280 : (.methodLink RX7 280 yX2_copyFrom : Cond) ∈ AL := al_mem 299 (by decide +kernel)
theorem qI_X2_copyFrom : (.instanceMethod yX2_copyFrom : Cond) ∈ AL := al_mem 300 (by decide +kernel)
theorem qS_X2_copyFrom : (.selects RX2 yX2_copyFrom yX2_copyFrom : Cond) ∈ AL := al_mem 301 (by decide +kernel)
theorem qC_X2_copyFrom : (.code yX2_copyFrom cX2_copyFrom 3 none : Cond) ∈ AL := al_mem 302 (by decide +kernel)
theorem qM_X2_39 : (.methodLink RX2 39 arraycopyName : Cond) ∈ AL := al_mem 303 (by decide +kernel)
theorem qT_Sys_arraycopy : (.static arraycopyName : Cond) ∈ AL := al_mem 304 (by decide +kernel)
theorem qN_Sys_arraycopy : (.native arraycopyName : Cond) ∈ AL := al_mem 305 (by decide +kernel)
theorem qM_X2_45 : (.methodLink RX2 45 yX6_copyFrom : Cond) ∈ AL := al_mem 306 (by decide +kernel)
theorem qI_X6_copyFrom : (.instanceMethod yX6_copyFrom : Cond) ∈ AL := al_mem 307 (by decide +kernel)
theorem qS_X6_copyFrom : (.selects RX6 yX6_copyFrom yX6_copyFrom : Cond) ∈ AL := al_mem 308 (by decide +kernel)
theorem qC_X6_copyFrom : (.code yX6_copyFrom cX6_copyFrom 2 none : Cond) ∈ AL := al_mem 309 (by decide +kernel)
theorem qM_X6_37 : (.methodLink RX6 37 arraycopyName : Cond) ∈ AL := al_mem 310 (by decide +kernel)
theorem qM_X2_49 : (.methodLink RX2 49 yX0_copyFrom : Cond) ∈ AL := al_mem 311 (by decide +kernel)
theorem qI_X0_copyFrom : (.instanceMethod yX0_copyFrom : Cond) ∈ AL := al_mem 312 (by decide +kernel)
theorem qS_X0_copyFrom : (.selects RX0 yX0_copyFrom yX0_copyFrom : Cond) ∈ AL := al_mem 313 (by decide +kernel)
theorem qC_X0_copyFrom : (.code yX0_copyFrom cX0_copyFrom 2 none : Cond) ∈ AL := al_mem 314 (by decide +kernel)
theorem qM_X7_44 : (.methodLink RX7 44 yX2_movePort : Cond) ∈ AL := al_mem 315 (by decide +kernel)
theorem qI_X2_movePort : (.instanceMethod yX2_movePort : Cond) ∈ AL := al_mem 316 (by decide +kernel)
theorem qS_X2_movePort : (.selects RX2 yX2_movePort yX2_movePort : Cond) ∈ AL := al_mem 317 (by decide +kernel)
theorem qC_X2_movePort : (.code yX2_movePort cX2_movePort 5 (some .int) : Cond) ∈ AL := al_mem 318 (by decide +kernel)
theorem qT_X7_isPort : (.static yX7_isPort : Cond) ∈ AL := al_mem 320 (by decide +kernel)
theorem qC_X7_isPort : (.code yX7_isPort cX7_isPort 1 (some .boolean) : Cond) ∈ AL := al_mem 321 (by decide +kernel)
theorem qM_X7_156 : (.methodLink RX7 156 yX7_isIn : Cond) ∈ AL := al_mem 322 (by decide +kernel)
theorem qT_X7_isIn : (.static yX7_isIn : Cond) ∈ AL := al_mem 323 (by decide +kernel)
theorem qC_X7_isIn : (.code yX7_isIn cX7_isIn 3 (some .boolean) : Cond) ∈ AL := al_mem 324 (by decide +kernel)
theorem qc_X2_73 : (.constant RX2 73 (-1000001) : Cond) ∈ AL := al_mem 326 (by decide +kernel)
theorem qM_X2_74 : (.methodLink RX2 74 yX2_cargoesThatAre : Cond) ∈ AL := al_mem 327 (by decide +kernel)
theorem qI_X2_cargoesThatAre : (.instanceMethod yX2_cargoesThatAre : Cond) ∈ AL := al_mem 328 (by decide +kernel)
theorem qS_X2_cargoesThatAre : (.selects RX2 yX2_cargoesThatAre yX2_cargoesThatAre : Cond) ∈ AL := al_mem 329 (by decide +kernel)
theorem qC_X2_cargoesThatAre : (.code yX2_cargoesThatAre cX2_cargoesThatAre 4 (some .int) : Cond) ∈ AL := al_mem 330 (by decide +kernel)
theorem qc_X2_78 : (.constant RX2 78 (-1000002) : Cond) ∈ AL := al_mem 331 (by decide +kernel)
theorem qM_X7_48 : (.methodLink RX7 48 yX7_keep : Cond) ∈ AL := al_mem 332 (by decide +kernel)
theorem qI_X7_keep : (.instanceMethod yX7_keep : Cond) ∈ AL := al_mem 334 (by decide +kernel)
theorem qC_X7_keep : (.code yX7_keep cX7_keep 2 (some .int) : Cond) ∈ AL := al_mem 335 (by decide +kernel)
theorem qM_X7_284 : (.methodLink RX7 284 yX7_isError : Cond) ∈ AL := al_mem 336 (by decide +kernel)
theorem qT_X7_isError : (.static yX7_isError : Cond) ∈ AL := al_mem 337 (by decide +kernel)
theorem qC_X7_isError : (.code yX7_isError cX7_isError 1 (some .boolean) : Cond) ∈ AL := al_mem 338 (by decide +kernel)
theorem qc_X7_155 : (.constant RX7 155 (-1000004) : Cond) ∈ AL := al_mem 339 (by decide +kernel)
theorem qc_X7_77 : (.constant RX7 77 (-1000001) : Cond) ∈ AL := al_mem 340 (by decide +kernel)
theorem qM_X7_287 : (.methodLink RX7 287 yX4_record : Cond) ∈ AL := al_mem 341 (by decide +kernel)
theorem qI_X4_record : (.instanceMethod yX4_record : Cond) ∈ AL := al_mem 342 (by decide +kernel)
theorem qS_X4_record : (.selects RX4 yX4_record yX4_record : Cond) ∈ AL := al_mem 343 (by decide +kernel)
theorem qC_X4_record : (.code yX4_record cX4_record 2 none : Cond) ∈ AL := al_mem 344 (by decide +kernel)
theorem qM_X4_22 : (.methodLink RX4 22 yX4_dropOldest : Cond) ∈ AL := al_mem 345 (by decide +kernel)
theorem qI_X4_dropOldest : (.instanceMethod yX4_dropOldest : Cond) ∈ AL := al_mem 347 (by decide +kernel)
theorem qC_X4_dropOldest : (.code yX4_dropOldest cX4_dropOldest 3 none : Cond) ∈ AL := al_mem 348 (by decide +kernel)
theorem qM_X4_25 : (.methodLink RX4 25 yX2_copyFrom : Cond) ∈ AL := al_mem 349 (by decide +kernel)
theorem qM_L_50 : (.methodLink RL 50 yX7_ship : Cond) ∈ AL := al_mem 350 (by decide +kernel)
theorem qI_X7_ship : (.instanceMethod yX7_ship : Cond) ∈ AL := al_mem 351 (by decide +kernel)
theorem qS_X7_ship : (.selects RX7 yX7_ship yX7_ship : Cond) ∈ AL := al_mem 352 (by decide +kernel)
theorem qC_X7_ship : (.code yX7_ship cX7_ship 6 (some .int) : Cond) ∈ AL := al_mem 353 (by decide +kernel)
theorem qM_X7_52 : (.methodLink RX7 52 yX2_addShip : Cond) ∈ AL := al_mem 354 (by decide +kernel)
theorem qI_X2_addShip : (.instanceMethod yX2_addShip : Cond) ∈ AL := al_mem 355 (by decide +kernel)
theorem qS_X2_addShip : (.selects RX2 yX2_addShip yX2_addShip : Cond) ∈ AL := al_mem 356 (by decide +kernel)
theorem qC_X2_addShip : (.code yX2_addShip cX2_addShip 7 (some .int) : Cond) ∈ AL := al_mem 357 (by decide +kernel)
theorem qc_X2_79 : (.constant RX2 79 (-1000003) : Cond) ∈ AL := al_mem 358 (by decide +kernel)
theorem qM_L_54 : (.methodLink RL 54 yX7_cargo : Cond) ∈ AL := al_mem 359 (by decide +kernel)
theorem qI_X7_cargo : (.instanceMethod yX7_cargo : Cond) ∈ AL := al_mem 360 (by decide +kernel)
theorem qS_X7_cargo : (.selects RX7 yX7_cargo yX7_cargo : Cond) ∈ AL := al_mem 361 (by decide +kernel)
theorem qC_X7_cargo : (.code yX7_cargo cX7_cargo 7 (some .int) : Cond) ∈ AL := al_mem 362 (by decide +kernel)
theorem qM_X7_56 : (.methodLink RX7 56 yX2_addCargo : Cond) ∈ AL := al_mem 363 (by decide +kernel)
theorem qI_X2_addCargo : (.instanceMethod yX2_addCargo : Cond) ∈ AL := al_mem 364 (by decide +kernel)
theorem qS_X2_addCargo : (.selects RX2 yX2_addCargo yX2_addCargo : Cond) ∈ AL := al_mem 365 (by decide +kernel)
theorem qC_X2_addCargo : (.code yX2_addCargo cX2_addCargo 8 (some .int) : Cond) ∈ AL := al_mem 366 (by decide +kernel)
theorem qM_L_69 : (.methodLink RL 69 yX7_fix : Cond) ∈ AL := al_mem 367 (by decide +kernel)
theorem qI_X7_fix : (.instanceMethod yX7_fix : Cond) ∈ AL := al_mem 368 (by decide +kernel)
theorem qS_X7_fix : (.selects RX7 yX7_fix yX7_fix : Cond) ∈ AL := al_mem 369 (by decide +kernel)
theorem qC_X7_fix : (.code yX7_fix cX7_fix 3 (some .int) : Cond) ∈ AL := al_mem 370 (by decide +kernel)
theorem qM_X7_60 : (.methodLink RX7 60 yX2_fixShip : Cond) ∈ AL := al_mem 371 (by decide +kernel)
theorem qI_X2_fixShip : (.instanceMethod yX2_fixShip : Cond) ∈ AL := al_mem 372 (by decide +kernel)
theorem qS_X2_fixShip : (.selects RX2 yX2_fixShip yX2_fixShip : Cond) ∈ AL := al_mem 373 (by decide +kernel)
theorem qC_X2_fixShip : (.code yX2_fixShip cX2_fixShip 5 (some .int) : Cond) ∈ AL := al_mem 374 (by decide +kernel)
theorem qM_X2_113 : (.methodLink RX2 113 yX2_isShip : Cond) ∈ AL := al_mem 375 (by decide +kernel)
theorem qI_X2_isShip : (.instanceMethod yX2_isShip : Cond) ∈ AL := al_mem 376 (by decide +kernel)
theorem qS_X2_isShip : (.selects RX2 yX2_isShip yX2_isShip : Cond) ∈ AL := al_mem 377 (by decide +kernel)
theorem qC_X2_isShip : (.code yX2_isShip cX2_isShip 2 (some .boolean) : Cond) ∈ AL := al_mem 378 (by decide +kernel)
theorem qM_X2_116 : (.methodLink RX2 116 yX2_isCargo : Cond) ∈ AL := al_mem 379 (by decide +kernel)
theorem qI_X2_isCargo : (.instanceMethod yX2_isCargo : Cond) ∈ AL := al_mem 380 (by decide +kernel)
theorem qS_X2_isCargo : (.selects RX2 yX2_isCargo yX2_isCargo : Cond) ∈ AL := al_mem 381 (by decide +kernel)
theorem qC_X2_isCargo : (.code yX2_isCargo cX2_isCargo 2 (some .boolean) : Cond) ∈ AL := al_mem 382 (by decide +kernel)
theorem qM_X2_122 : (.methodLink RX2 122 yX2_hindrance : Cond) ∈ AL := al_mem 383 (by decide +kernel)
theorem qI_X2_hindrance : (.instanceMethod yX2_hindrance : Cond) ∈ AL := al_mem 384 (by decide +kernel)
theorem qS_X2_hindrance : (.selects RX2 yX2_hindrance yX2_hindrance : Cond) ∈ AL := al_mem 385 (by decide +kernel)
theorem qC_X2_hindrance : (.code yX2_hindrance cX2_hindrance 3 (some .int) : Cond) ∈ AL := al_mem 386 (by decide +kernel)
theorem qM_X2_173 : (.methodLink RX2 173 yX2_follow : Cond) ∈ AL := al_mem 387 (by decide +kernel)
theorem qI_X2_follow : (.instanceMethod yX2_follow : Cond) ∈ AL := al_mem 388 (by decide +kernel)
theorem qS_X2_follow : (.selects RX2 yX2_follow yX2_follow : Cond) ∈ AL := al_mem 389 (by decide +kernel)
theorem qC_X2_follow : (.code yX2_follow cX2_follow 5 (some (.object "ShipFixtures$Course")) : Cond) ∈ AL := al_mem 390 (by decide +kernel)
theorem qM_X2_166 : (.methodLink RX2 166 yX1_begin : Cond) ∈ AL := al_mem 391 (by decide +kernel)
theorem qI_X1_begin : (.instanceMethod yX1_begin : Cond) ∈ AL := al_mem 392 (by decide +kernel)
theorem qS_X1_begin : (.selects RX1 yX1_begin yX1_begin : Cond) ∈ AL := al_mem 393 (by decide +kernel)
theorem qC_X1_begin : (.code yX1_begin cX1_begin 2 none : Cond) ∈ AL := al_mem 394 (by decide +kernel)
theorem qM_X2_169 : (.methodLink RX2 169 yX2_sail : Cond) ∈ AL := al_mem 395 (by decide +kernel)
theorem qI_X2_sail : (.instanceMethod yX2_sail : Cond) ∈ AL := al_mem 397 (by decide +kernel)
theorem qC_X2_sail : (.code yX2_sail cX2_sail 7 none : Cond) ∈ AL := al_mem 398 (by decide +kernel)
theorem qM_X2_177 : (.methodLink RX2 177 yX2_between : Cond) ∈ AL := al_mem 399 (by decide +kernel)
theorem qI_X2_between : (.instanceMethod yX2_between : Cond) ∈ AL := al_mem 400 (by decide +kernel)
theorem qS_X2_between : (.selects RX2 yX2_between yX2_between : Cond) ∈ AL := al_mem 401 (by decide +kernel)
theorem qC_X2_between : (.code yX2_between cX2_between 5 (some .int) : Cond) ∈ AL := al_mem 402 (by decide +kernel)
theorem qT_X7_divideUp : (.static yX7_divideUp : Cond) ∈ AL := al_mem 404 (by decide +kernel)
theorem qC_X7_divideUp : (.code yX7_divideUp cX7_divideUp 2 (some .int) : Cond) ∈ AL := al_mem 405 (by decide +kernel)
theorem qM_X2_186 : (.methodLink RX2 186 yJ9_max_7cf53 : Cond) ∈ AL := al_mem 406 (by decide +kernel)
theorem qT_J9_max_7cf53 : (.static yJ9_max_7cf53 : Cond) ∈ AL := al_mem 407 (by decide +kernel)
theorem qC_J9_max_7cf53 : (.code yJ9_max_7cf53 cJ9_max_7cf53 2 (some .int) : Cond) ∈ AL := al_mem 408 (by decide +kernel)
theorem qM_X2_145 : (.methodLink RX2 145 yX0_worth : Cond) ∈ AL := al_mem 409 (by decide +kernel)
theorem qI_X0_worth : (.instanceMethod yX0_worth : Cond) ∈ AL := al_mem 410 (by decide +kernel)
theorem qS_X0_worth : (.selects RX0 yX0_worth yX0_worth : Cond) ∈ AL := al_mem 411 (by decide +kernel)
theorem qC_X0_worth : (.code yX0_worth cX0_worth 1 (some .int) : Cond) ∈ AL := al_mem 412 (by decide +kernel)
theorem qM_L_58 : (.methodLink RL 58 yX7_delay : Cond) ∈ AL := al_mem 413 (by decide +kernel)
theorem qI_X7_delay : (.instanceMethod yX7_delay : Cond) ∈ AL := al_mem 414 (by decide +kernel)
theorem qS_X7_delay : (.selects RX7 yX7_delay yX7_delay : Cond) ∈ AL := al_mem 415 (by decide +kernel)
theorem qC_X7_delay : (.code yX7_delay cX7_delay 3 (some .int) : Cond) ∈ AL := al_mem 416 (by decide +kernel)
theorem qM_X7_64 : (.methodLink RX7 64 yX2_delayShip : Cond) ∈ AL := al_mem 417 (by decide +kernel)
theorem qI_X2_delayShip : (.instanceMethod yX2_delayShip : Cond) ∈ AL := al_mem 418 (by decide +kernel)
theorem qS_X2_delayShip : (.selects RX2 yX2_delayShip yX2_delayShip : Cond) ∈ AL := al_mem 419 (by decide +kernel)
theorem qC_X2_delayShip : (.code yX2_delayShip cX2_delayShip 6 (some .int) : Cond) ∈ AL := al_mem 420 (by decide +kernel)
theorem qM_X2_138 : (.methodLink RX2 138 yX2_fixturesInTime : Cond) ∈ AL := al_mem 421 (by decide +kernel)
theorem qI_X2_fixturesInTime : (.instanceMethod yX2_fixturesInTime : Cond) ∈ AL := al_mem 423 (by decide +kernel)
theorem qC_X2_fixturesInTime : (.code yX2_fixturesInTime cX2_fixturesInTime 4 (some .int) : Cond) ∈ AL := al_mem 424 (by decide +kernel)
theorem qM_X2_141 : (.methodLink RX2 141 yX2_dropFixtures : Cond) ∈ AL := al_mem 425 (by decide +kernel)
theorem qI_X2_dropFixtures : (.instanceMethod yX2_dropFixtures : Cond) ∈ AL := al_mem 427 (by decide +kernel)
theorem qC_X2_dropFixtures : (.code yX2_dropFixtures cX2_dropFixtures 5 none : Cond) ∈ AL := al_mem 428 (by decide +kernel)
theorem qM_L_62 : (.methodLink RL 62 yX7_callOff : Cond) ∈ AL := al_mem 429 (by decide +kernel)
theorem qI_X7_callOff : (.instanceMethod yX7_callOff : Cond) ∈ AL := al_mem 430 (by decide +kernel)
theorem qS_X7_callOff : (.selects RX7 yX7_callOff yX7_callOff : Cond) ∈ AL := al_mem 431 (by decide +kernel)
theorem qC_X7_callOff : (.code yX7_callOff cX7_callOff 2 (some .int) : Cond) ∈ AL := al_mem 432 (by decide +kernel)
theorem qM_X7_67 : (.methodLink RX7 67 yX2_callOffLast : Cond) ∈ AL := al_mem 433 (by decide +kernel)
theorem qI_X2_callOffLast : (.instanceMethod yX2_callOffLast : Cond) ∈ AL := al_mem 434 (by decide +kernel)
theorem qS_X2_callOffLast : (.selects RX2 yX2_callOffLast yX2_callOffLast : Cond) ∈ AL := al_mem 435 (by decide +kernel)
theorem qC_X2_callOffLast : (.code yX2_callOffLast cX2_callOffLast 5 (some .int) : Cond) ∈ AL := al_mem 436 (by decide +kernel)
theorem qM_L_76 : (.methodLink RL 76 yX7_settle : Cond) ∈ AL := al_mem 437 (by decide +kernel)
theorem qI_X7_settle : (.instanceMethod yX7_settle : Cond) ∈ AL := al_mem 438 (by decide +kernel)
theorem qS_X7_settle : (.selects RX7 yX7_settle yX7_settle : Cond) ∈ AL := al_mem 439 (by decide +kernel)
theorem qC_X7_settle : (.code yX7_settle cX7_settle 2 (some .int) : Cond) ∈ AL := al_mem 440 (by decide +kernel)
theorem qM_X7_70 : (.methodLink RX7 70 yX2_settleShip : Cond) ∈ AL := al_mem 441 (by decide +kernel)
theorem qI_X2_settleShip : (.instanceMethod yX2_settleShip : Cond) ∈ AL := al_mem 442 (by decide +kernel)
theorem qS_X2_settleShip : (.selects RX2 yX2_settleShip yX2_settleShip : Cond) ∈ AL := al_mem 443 (by decide +kernel)
theorem qC_X2_settleShip : (.code yX2_settleShip cX2_settleShip 3 (some .int) : Cond) ∈ AL := al_mem 444 (by decide +kernel)
theorem qM_X2_155 : (.methodLink RX2 155 yX2_followAll : Cond) ∈ AL := al_mem 445 (by decide +kernel)
theorem qI_X2_followAll : (.instanceMethod yX2_followAll : Cond) ∈ AL := al_mem 446 (by decide +kernel)
theorem qS_X2_followAll : (.selects RX2 yX2_followAll yX2_followAll : Cond) ∈ AL := al_mem 447 (by decide +kernel)
theorem qC_X2_followAll : (.code yX2_followAll cX2_followAll 2 (some (.object "ShipFixtures$Course")) : Cond) ∈ AL := al_mem 448 (by decide +kernel)
theorem qc_X2_165 : (.constant RX2 165 (1000000) : Cond) ∈ AL := al_mem 449 (by decide +kernel)
theorem qM_L_8 : (.methodLink RL 8 yX7_shipOf : Cond) ∈ AL := al_mem 450 (by decide +kernel)
theorem qI_X7_shipOf : (.instanceMethod yX7_shipOf : Cond) ∈ AL := al_mem 451 (by decide +kernel)
theorem qS_X7_shipOf : (.selects RX7 yX7_shipOf yX7_shipOf : Cond) ∈ AL := al_mem 452 (by decide +kernel)
theorem qC_X7_shipOf : (.code yX7_shipOf cX7_shipOf 4 (some .int) : Cond) ∈ AL := al_mem 453 (by decide +kernel)
theorem qM_X7_73 : (.methodLink RX7 73 yX2_isShip : Cond) ∈ AL := al_mem 454 (by decide +kernel)
theorem qM_X7_94 : (.methodLink RX7 94 yX2_followAll : Cond) ∈ AL := al_mem 455 (by decide +kernel)
theorem qc_X7_118 : (.constant RX7 118 (1000000) : Cond) ∈ AL := al_mem 456 (by decide +kernel)
theorem qM_L_19 : (.methodLink RL 19 yX7_cargoOf : Cond) ∈ AL := al_mem 457 (by decide +kernel)
theorem qI_X7_cargoOf : (.instanceMethod yX7_cargoOf : Cond) ∈ AL := al_mem 458 (by decide +kernel)
theorem qS_X7_cargoOf : (.selects RX7 yX7_cargoOf yX7_cargoOf : Cond) ∈ AL := al_mem 459 (by decide +kernel)
theorem qC_X7_cargoOf : (.code yX7_cargoOf cX7_cargoOf 4 (some .int) : Cond) ∈ AL := al_mem 460 (by decide +kernel)
theorem qM_X7_122 : (.methodLink RX7 122 yX2_isCargo : Cond) ∈ AL := al_mem 461 (by decide +kernel)
theorem qM_L_14 : (.methodLink RL 14 yX7_fixtureOf : Cond) ∈ AL := al_mem 462 (by decide +kernel)
theorem qI_X7_fixtureOf : (.instanceMethod yX7_fixtureOf : Cond) ∈ AL := al_mem 463 (by decide +kernel)
theorem qS_X7_fixtureOf : (.selects RX7 yX7_fixtureOf yX7_fixtureOf : Cond) ∈ AL := al_mem 464 (by decide +kernel)
theorem qC_X7_fixtureOf : (.code yX7_fixtureOf cX7_fixtureOf 6 (some .int) : Cond) ∈ AL := al_mem 465 (by decide +kernel)
theorem qM_X7_160 : (.methodLink RX7 160 yX2_follow : Cond) ∈ AL := al_mem 466 (by decide +kernel)
theorem qM_L_22 : (.methodLink RL 22 yX7_distance : Cond) ∈ AL := al_mem 467 (by decide +kernel)
theorem qI_X7_distance : (.instanceMethod yX7_distance : Cond) ∈ AL := al_mem 468 (by decide +kernel)
theorem qS_X7_distance : (.selects RX7 yX7_distance yX7_distance : Cond) ∈ AL := al_mem 469 (by decide +kernel)
theorem qC_X7_distance : (.code yX7_distance cX7_distance 3 (some .int) : Cond) ∈ AL := al_mem 470 (by decide +kernel)
theorem qM_X7_180 : (.methodLink RX7 180 yX7_isPort : Cond) ∈ AL := al_mem 471 (by decide +kernel)
theorem qM_X7_183 : (.methodLink RX7 183 yX2_between : Cond) ∈ AL := al_mem 472 (by decide +kernel)
theorem qM_L_66 : (.methodLink RL 66 yX7_voyage : Cond) ∈ AL := al_mem 473 (by decide +kernel)
theorem qI_X7_voyage : (.instanceMethod yX7_voyage : Cond) ∈ AL := al_mem 474 (by decide +kernel)
theorem qS_X7_voyage : (.selects RX7 yX7_voyage yX7_voyage : Cond) ∈ AL := al_mem 475 (by decide +kernel)
theorem qC_X7_voyage : (.code yX7_voyage cX7_voyage 6 (some .int) : Cond) ∈ AL := al_mem 476 (by decide +kernel)
theorem qM_X7_186 : (.methodLink RX7 186 yX2_hindrance : Cond) ∈ AL := al_mem 477 (by decide +kernel)
theorem qM_X7_196 : (.methodLink RX7 196 yX1_bitsOfEarningsByTheDay : Cond) ∈ AL := al_mem 478 (by decide +kernel)
theorem qI_X1_bitsOfEarningsByTheDay : (.instanceMethod yX1_bitsOfEarningsByTheDay : Cond) ∈ AL := al_mem 479 (by decide +kernel)
theorem qS_X1_bitsOfEarningsByTheDay : (.selects RX1 yX1_bitsOfEarningsByTheDay yX1_bitsOfEarningsByTheDay : Cond) ∈ AL := al_mem 480 (by decide +kernel)
theorem qC_X1_bitsOfEarningsByTheDay : (.code yX1_bitsOfEarningsByTheDay cX1_bitsOfEarningsByTheDay 1 (some .int) : Cond) ∈ AL := al_mem 481 (by decide +kernel)
theorem qM_X1_35 : (.methodLink RX1 35 yX1_bitsOf : Cond) ∈ AL := al_mem 482 (by decide +kernel)
theorem qT_X1_bitsOf : (.static yX1_bitsOf : Cond) ∈ AL := al_mem 483 (by decide +kernel)
theorem qC_X1_bitsOf : (.code yX1_bitsOf cX1_bitsOf 4 (some .int) : Cond) ∈ AL := al_mem 484 (by decide +kernel)
theorem qc_X1_39 : (.constant RX1 39 (-2147483648) : Cond) ∈ AL := al_mem 485 (by decide +kernel)
theorem qc_X1_40 : (.constantFloat RX1 40 (1258291200) : Cond) ∈ AL := al_mem 486 (by decide +kernel)
theorem qc_X1_41 : (.constant RX1 41 (8388607) : Cond) ∈ AL := al_mem 487 (by decide +kernel)
theorem qM_L_40 : (.methodLink RL 40 yX7_bestCargo : Cond) ∈ AL := al_mem 488 (by decide +kernel)
theorem qI_X7_bestCargo : (.instanceMethod yX7_bestCargo : Cond) ∈ AL := al_mem 489 (by decide +kernel)
theorem qS_X7_bestCargo : (.selects RX7 yX7_bestCargo yX7_bestCargo : Cond) ∈ AL := al_mem 490 (by decide +kernel)
theorem qC_X7_bestCargo : (.code yX7_bestCargo cX7_bestCargo 2 (some .int) : Cond) ∈ AL := al_mem 491 (by decide +kernel)
theorem qM_X7_203 : (.methodLink RX7 203 yX2_choose : Cond) ∈ AL := al_mem 492 (by decide +kernel)
theorem qI_X2_choose : (.instanceMethod yX2_choose : Cond) ∈ AL := al_mem 493 (by decide +kernel)
theorem qS_X2_choose : (.selects RX2 yX2_choose yX2_choose : Cond) ∈ AL := al_mem 494 (by decide +kernel)
theorem qC_X2_choose : (.code yX2_choose cX2_choose 8 (some .boolean) : Cond) ∈ AL := al_mem 495 (by decide +kernel)
theorem qM_L_86 : (.methodLink RL 86 yX7_plan : Cond) ∈ AL := al_mem 496 (by decide +kernel)
theorem qI_X7_plan : (.instanceMethod yX7_plan : Cond) ∈ AL := al_mem 497 (by decide +kernel)
theorem qS_X7_plan : (.selects RX7 yX7_plan yX7_plan : Cond) ∈ AL := al_mem 498 (by decide +kernel)
theorem qC_X7_plan : (.code yX7_plan cX7_plan 6 (some .int) : Cond) ∈ AL := al_mem 499 (by decide +kernel)
theorem qM_X7_217 : (.methodLink RX7 217 yX2_chooseGainful : Cond) ∈ AL := al_mem 500 (by decide +kernel)
theorem qI_X2_chooseGainful : (.instanceMethod yX2_chooseGainful : Cond) ∈ AL := al_mem 501 (by decide +kernel)
theorem qS_X2_chooseGainful : (.selects RX2 yX2_chooseGainful yX2_chooseGainful : Cond) ∈ AL := al_mem 502 (by decide +kernel)
theorem qC_X2_chooseGainful : (.code yX2_chooseGainful cX2_chooseGainful 1 (some .boolean) : Cond) ∈ AL := al_mem 503 (by decide +kernel)
theorem qM_X2_213 : (.methodLink RX2 213 yX2_choose : Cond) ∈ AL := al_mem 504 (by decide +kernel)
theorem qM_X7_224 : (.methodLink RX7 224 yX2_pairOf : Cond) ∈ AL := al_mem 505 (by decide +kernel)
theorem qI_X2_pairOf : (.instanceMethod yX2_pairOf : Cond) ∈ AL := al_mem 506 (by decide +kernel)
theorem qS_X2_pairOf : (.selects RX2 yX2_pairOf yX2_pairOf : Cond) ∈ AL := al_mem 507 (by decide +kernel)
theorem qC_X2_pairOf : (.code yX2_pairOf cX2_pairOf 2 (some .long) : Cond) ∈ AL := al_mem 508 (by decide +kernel)
theorem qM_X7_228 : (.methodLink RX7 228 yX2_openCargoes : Cond) ∈ AL := al_mem 509 (by decide +kernel)
theorem qI_X2_openCargoes : (.instanceMethod yX2_openCargoes : Cond) ∈ AL := al_mem 510 (by decide +kernel)
theorem qS_X2_openCargoes : (.selects RX2 yX2_openCargoes yX2_openCargoes : Cond) ∈ AL := al_mem 511 (by decide +kernel)
theorem qC_X2_openCargoes : (.code yX2_openCargoes cX2_openCargoes 3 (some .int) : Cond) ∈ AL := al_mem 512 (by decide +kernel)
theorem qM_X7_231 : (.methodLink RX7 231 yJ13_bitCount_95d88 : Cond) ∈ AL := al_mem 513 (by decide +kernel)
theorem qT_J13_bitCount_95d88 : (.static yJ13_bitCount_95d88 : Cond) ∈ AL := al_mem 514 (by decide +kernel)
theorem qC_J13_bitCount_95d88 : (.code yJ13_bitCount_95d88 cJ13_bitCount_95d88 2 (some .int) : Cond) ∈ AL := al_mem 515 (by decide +kernel)
theorem qc_J13_314 : (.constantLong RJ13 314 (6148914691236517205) : Cond) ∈ AL := al_mem 516 (by decide +kernel)
theorem qc_J13_316 : (.constantLong RJ13 316 (3689348814741910323) : Cond) ∈ AL := al_mem 517 (by decide +kernel)
theorem qc_J13_318 : (.constantLong RJ13 318 (1085102592571150095) : Cond) ∈ AL := al_mem 518 (by decide +kernel)
theorem qM_L_26 : (.methodLink RL 26 yX7_slack : Cond) ∈ AL := al_mem 519 (by decide +kernel)
theorem qI_X7_slack : (.instanceMethod yX7_slack : Cond) ∈ AL := al_mem 520 (by decide +kernel)
theorem qS_X7_slack : (.selects RX7 yX7_slack yX7_slack : Cond) ∈ AL := al_mem 521 (by decide +kernel)
theorem qC_X7_slack : (.code yX7_slack cX7_slack 2 (some .int) : Cond) ∈ AL := al_mem 522 (by decide +kernel)
theorem qM_X7_237 : (.methodLink RX7 237 yX2_slackOf : Cond) ∈ AL := al_mem 523 (by decide +kernel)
theorem qI_X2_slackOf : (.instanceMethod yX2_slackOf : Cond) ∈ AL := al_mem 524 (by decide +kernel)
theorem qS_X2_slackOf : (.selects RX2 yX2_slackOf yX2_slackOf : Cond) ∈ AL := al_mem 525 (by decide +kernel)
theorem qC_X2_slackOf : (.code yX2_slackOf cX2_slackOf 7 (some .int) : Cond) ∈ AL := al_mem 526 (by decide +kernel)
theorem qc_X2_200 : (.constant RX2 200 (-1000004) : Cond) ∈ AL := al_mem 527 (by decide +kernel)
theorem qM_X2_201 : (.methodLink RX2 201 yJ9_min_7cf53 : Cond) ∈ AL := al_mem 528 (by decide +kernel)
theorem qT_J9_min_7cf53 : (.static yJ9_min_7cf53 : Cond) ∈ AL := al_mem 529 (by decide +kernel)
theorem qC_J9_min_7cf53 : (.code yJ9_min_7cf53 cJ9_min_7cf53 2 (some .int) : Cond) ∈ AL := al_mem 530 (by decide +kernel)
theorem qM_L_30 : (.methodLink RL 30 yX7_count : Cond) ∈ AL := al_mem 531 (by decide +kernel)
theorem qI_X7_count : (.instanceMethod yX7_count : Cond) ∈ AL := al_mem 532 (by decide +kernel)
theorem qS_X7_count : (.selects RX7 yX7_count yX7_count : Cond) ∈ AL := al_mem 533 (by decide +kernel)
theorem qC_X7_count : (.code yX7_count cX7_count 2 (some .int) : Cond) ∈ AL := al_mem 534 (by decide +kernel)
theorem qM_X7_240 : (.methodLink RX7 240 yX2_cargoesThatAre : Cond) ∈ AL := al_mem 535 (by decide +kernel)
theorem qM_X7_243 : (.methodLink RX7 243 yX2_accountsTogether : Cond) ∈ AL := al_mem 536 (by decide +kernel)
theorem qI_X2_accountsTogether : (.instanceMethod yX2_accountsTogether : Cond) ∈ AL := al_mem 537 (by decide +kernel)
theorem qS_X2_accountsTogether : (.selects RX2 yX2_accountsTogether yX2_accountsTogether : Cond) ∈ AL := al_mem 538 (by decide +kernel)
theorem qC_X2_accountsTogether : (.code yX2_accountsTogether cX2_accountsTogether 3 (some .int) : Cond) ∈ AL := al_mem 539 (by decide +kernel)
theorem qM_L_72 : (.methodLink RL 72 yX7_undo : Cond) ∈ AL := al_mem 540 (by decide +kernel)
theorem qI_X7_undo : (.instanceMethod yX7_undo : Cond) ∈ AL := al_mem 541 (by decide +kernel)
theorem qS_X7_undo : (.selects RX7 yX7_undo yX7_undo : Cond) ∈ AL := al_mem 542 (by decide +kernel)
theorem qC_X7_undo : (.code yX7_undo cX7_undo 1 (some .int) : Cond) ∈ AL := al_mem 543 (by decide +kernel)
theorem qM_X7_256 : (.methodLink RX7 256 yX4_restore : Cond) ∈ AL := al_mem 544 (by decide +kernel)
theorem qI_X4_restore : (.instanceMethod yX4_restore : Cond) ∈ AL := al_mem 545 (by decide +kernel)
theorem qS_X4_restore : (.selects RX4 yX4_restore yX4_restore : Cond) ∈ AL := al_mem 546 (by decide +kernel)
theorem qC_X4_restore : (.code yX4_restore cX4_restore 2 (some .boolean) : Cond) ∈ AL := al_mem 547 (by decide +kernel)
theorem qc_X7_210 : (.constant RX7 210 (-1000002) : Cond) ∈ AL := al_mem 548 (by decide +kernel)
theorem qM_L_44 : (.methodLink RL 44 yL_cell : Cond) ∈ AL := al_mem 549 (by decide +kernel)
theorem qT_L_cell : (.static yL_cell : Cond) ∈ AL := al_mem 550 (by decide +kernel)
theorem qC_L_cell : (.code yL_cell cL_cell 2 (some .int) : Cond) ∈ AL := al_mem 551 (by decide +kernel)
theorem qc_L_7 : (.constant RL 7 (2147483647) : Cond) ∈ AL := al_mem 552 (by decide +kernel)
theorem qM_L_79 : (.methodLink RL 79 yL_all : Cond) ∈ AL := al_mem 553 (by decide +kernel)
theorem qT_L_all : (.static yL_all : Cond) ∈ AL := al_mem 554 (by decide +kernel)
theorem qC_L_all : (.code yL_all cL_all 6 (some .boolean) : Cond) ∈ AL := al_mem 555 (by decide +kernel)
theorem qc_L_25 : (.constant RL 25 (1000000) : Cond) ∈ AL := al_mem 556 (by decide +kernel)
theorem qM_L_33 : (.methodLink RL 33 yL_hangs : Cond) ∈ AL := al_mem 557 (by decide +kernel)
theorem qT_L_hangs : (.static yL_hangs : Cond) ∈ AL := al_mem 558 (by decide +kernel)
theorem qC_L_hangs : (.code yL_hangs cL_hangs 14 (some .boolean) : Cond) ∈ AL := al_mem 559 (by decide +kernel)
theorem qc_L_18 : (.constant RL 18 (-1000004) : Cond) ∈ AL := al_mem 560 (by decide +kernel)
theorem qc_L_43 : (.constant RL 43 (-1000001) : Cond) ∈ AL := al_mem 561 (by decide +kernel)
theorem qc_L_48 : (.constant RL 48 (131072) : Cond) ∈ AL := al_mem 562 (by decide +kernel)
theorem qc_L_49 : (.constant RL 49 (1048576) : Cond) ∈ AL := al_mem 563 (by decide +kernel)
theorem qc_L_61 : (.constant RL 61 (-1000003) : Cond) ∈ AL := al_mem 564 (by decide +kernel)
theorem qc_L_65 : (.constant RL 65 (-1000002) : Cond) ∈ AL := al_mem 565 (by decide +kernel)
end
section
theorem dX0_init_0 : decode cX0_init 0 = .ok (.aload_n 0, 1) := by decide +kernel
theorem dX0_init_1 : decode cX0_init 1 = .ok (.invokespecial 1, 3) := by decide +kernel
theorem dX0_init_4 : decode cX0_init 4 = .ok (.return_, 1) := by decide +kernel
theorem dX0_copyFrom_0 : decode cX0_copyFrom 0 = .ok (.aload_n 0, 1) := by decide +kernel
theorem dX0_copyFrom_1 : decode cX0_copyFrom 1 = .ok (.aload_n 1, 1) := by decide +kernel
theorem dX0_copyFrom_2 : decode cX0_copyFrom 2 = .ok (.getfield 7, 3) := by decide +kernel
theorem dX0_copyFrom_5 : decode cX0_copyFrom 5 = .ok (.putfield 7, 3) := by decide +kernel
theorem dX0_copyFrom_8 : decode cX0_copyFrom 8 = .ok (.aload_n 0, 1) := by decide +kernel
theorem dX0_copyFrom_9 : decode cX0_copyFrom 9 = .ok (.aload_n 1, 1) := by decide +kernel
theorem dX0_copyFrom_10 : decode cX0_copyFrom 10 = .ok (.getfield 13, 3) := by decide +kernel
theorem dX0_copyFrom_13 : decode cX0_copyFrom 13 = .ok (.putfield 13, 3) := by decide +kernel
theorem dX0_copyFrom_16 : decode cX0_copyFrom 16 = .ok (.aload_n 0, 1) := by decide +kernel
theorem dX0_copyFrom_17 : decode cX0_copyFrom 17 = .ok (.aload_n 1, 1) := by decide +kernel
theorem dX0_copyFrom_18 : decode cX0_copyFrom 18 = .ok (.getfield 16, 3) := by decide +kernel
theorem dX0_copyFrom_21 : decode cX0_copyFrom 21 = .ok (.putfield 16, 3) := by decide +kernel
theorem dX0_copyFrom_24 : decode cX0_copyFrom 24 = .ok (.aload_n 0, 1) := by decide +kernel
theorem dX0_copyFrom_25 : decode cX0_copyFrom 25 = .ok (.aload_n 1, 1) := by decide +kernel
theorem dX0_copyFrom_26 : decode cX0_copyFrom 26 = .ok (.getfield 19, 3) := by decide +kernel
theorem dX0_copyFrom_29 : decode cX0_copyFrom 29 = .ok (.putfield 19, 3) := by decide +kernel
theorem dX0_copyFrom_32 : decode cX0_copyFrom 32 = .ok (.aload_n 0, 1) := by decide +kernel
theorem dX0_copyFrom_33 : decode cX0_copyFrom 33 = .ok (.aload_n 1, 1) := by decide +kernel
theorem dX0_copyFrom_34 : decode cX0_copyFrom 34 = .ok (.getfield 22, 3) := by decide +kernel
theorem dX0_copyFrom_37 : decode cX0_copyFrom 37 = .ok (.putfield 22, 3) := by decide +kernel
theorem dX0_copyFrom_40 : decode cX0_copyFrom 40 = .ok (.aload_n 0, 1) := by decide +kernel
theorem dX0_copyFrom_41 : decode cX0_copyFrom 41 = .ok (.aload_n 1, 1) := by decide +kernel
theorem dX0_copyFrom_42 : decode cX0_copyFrom 42 = .ok (.getfield 25, 3) := by decide +kernel
theorem dX0_copyFrom_45 : decode cX0_copyFrom 45 = .ok (.putfield 25, 3) := by decide +kernel
theorem dX0_copyFrom_48 : decode cX0_copyFrom 48 = .ok (.aload_n 0, 1) := by decide +kernel
theorem dX0_copyFrom_49 : decode cX0_copyFrom 49 = .ok (.aload_n 1, 1) := by decide +kernel
theorem dX0_copyFrom_50 : decode cX0_copyFrom 50 = .ok (.getfield 28, 3) := by decide +kernel
theorem dX0_copyFrom_53 : decode cX0_copyFrom 53 = .ok (.putfield 28, 3) := by decide +kernel
theorem dX0_copyFrom_56 : decode cX0_copyFrom 56 = .ok (.aload_n 0, 1) := by decide +kernel
theorem dX0_copyFrom_57 : decode cX0_copyFrom 57 = .ok (.aload_n 1, 1) := by decide +kernel
theorem dX0_copyFrom_58 : decode cX0_copyFrom 58 = .ok (.getfield 31, 3) := by decide +kernel
theorem dX0_copyFrom_61 : decode cX0_copyFrom 61 = .ok (.putfield 31, 3) := by decide +kernel
theorem dX0_copyFrom_64 : decode cX0_copyFrom 64 = .ok (.return_, 1) := by decide +kernel
theorem dX0_worth_0 : decode cX0_worth 0 = .ok (.aload_n 0, 1) := by decide +kernel
theorem dX0_worth_1 : decode cX0_worth 1 = .ok (.getfield 7, 3) := by decide +kernel
theorem dX0_worth_4 : decode cX0_worth 4 = .ok (.aload_n 0, 1) := by decide +kernel
theorem dX0_worth_5 : decode cX0_worth 5 = .ok (.getfield 25, 3) := by decide +kernel
theorem dX0_worth_8 : decode cX0_worth 8 = .ok (.imul, 1) := by decide +kernel
theorem dX0_worth_9 : decode cX0_worth 9 = .ok (.ireturn, 1) := by decide +kernel
theorem dX1_init_0 : decode cX1_init 0 = .ok (.aload_n 0, 1) := by decide +kernel
theorem dX1_init_1 : decode cX1_init 1 = .ok (.invokespecial 3, 3) := by decide +kernel
theorem dX1_init_4 : decode cX1_init 4 = .ok (.return_, 1) := by decide +kernel
theorem dX1_begin_0 : decode cX1_begin 0 = .ok (.aload_n 0, 1) := by decide +kernel
theorem dX1_begin_1 : decode cX1_begin 1 = .ok (.aload_n 1, 1) := by decide +kernel
theorem dX1_begin_2 : decode cX1_begin 2 = .ok (.getfield 9, 3) := by decide +kernel
theorem dX1_begin_5 : decode cX1_begin 5 = .ok (.putfield 15, 3) := by decide +kernel
theorem dX1_begin_8 : decode cX1_begin 8 = .ok (.aload_n 0, 1) := by decide +kernel
theorem dX1_begin_9 : decode cX1_begin 9 = .ok (.aload_n 1, 1) := by decide +kernel
theorem dX1_begin_10 : decode cX1_begin 10 = .ok (.getfield 20, 3) := by decide +kernel
theorem dX1_begin_13 : decode cX1_begin 13 = .ok (.putfield 23, 3) := by decide +kernel
theorem dX1_begin_16 : decode cX1_begin 16 = .ok (.aload_n 0, 1) := by decide +kernel
theorem dX1_begin_17 : decode cX1_begin 17 = .ok (.iconst 0, 1) := by decide +kernel
theorem dX1_begin_18 : decode cX1_begin 18 = .ok (.putfield 26, 3) := by decide +kernel
theorem dX1_begin_21 : decode cX1_begin 21 = .ok (.return_, 1) := by decide +kernel
theorem dX1_bitsOfEarningsByTheDay_0 : decode cX1_bitsOfEarningsByTheDay 0 = .ok (.aload_n 0, 1) := by decide +kernel
theorem dX1_bitsOfEarningsByTheDay_1 : decode cX1_bitsOfEarningsByTheDay 1 = .ok (.getfield 29, 3) := by decide +kernel
theorem dX1_bitsOfEarningsByTheDay_4 : decode cX1_bitsOfEarningsByTheDay 4 = .ok (.iconst 1, 1) := by decide +kernel
theorem dX1_bitsOfEarningsByTheDay_5 : decode cX1_bitsOfEarningsByTheDay 5 = .ok (.if_icmp .ge 7, 3) := by decide +kernel
theorem dX1_bitsOfEarningsByTheDay_8 : decode cX1_bitsOfEarningsByTheDay 8 = .ok (.iconst 0, 1) := by decide +kernel
theorem dX1_bitsOfEarningsByTheDay_9 : decode cX1_bitsOfEarningsByTheDay 9 = .ok (.goto 17, 3) := by decide +kernel
theorem dX1_bitsOfEarningsByTheDay_12 : decode cX1_bitsOfEarningsByTheDay 12 = .ok (.aload_n 0, 1) := by decide +kernel
theorem dX1_bitsOfEarningsByTheDay_13 : decode cX1_bitsOfEarningsByTheDay 13 = .ok (.getfield 32, 3) := by decide +kernel
theorem dX1_bitsOfEarningsByTheDay_16 : decode cX1_bitsOfEarningsByTheDay 16 = .ok (.i2f, 1) := by decide +kernel
theorem dX1_bitsOfEarningsByTheDay_17 : decode cX1_bitsOfEarningsByTheDay 17 = .ok (.aload_n 0, 1) := by decide +kernel
theorem dX1_bitsOfEarningsByTheDay_18 : decode cX1_bitsOfEarningsByTheDay 18 = .ok (.getfield 29, 3) := by decide +kernel
theorem dX1_bitsOfEarningsByTheDay_21 : decode cX1_bitsOfEarningsByTheDay 21 = .ok (.i2f, 1) := by decide +kernel
theorem dX1_bitsOfEarningsByTheDay_22 : decode cX1_bitsOfEarningsByTheDay 22 = .ok (.fdiv, 1) := by decide +kernel
theorem dX1_bitsOfEarningsByTheDay_23 : decode cX1_bitsOfEarningsByTheDay 23 = .ok (.invokestatic 35, 3) := by decide +kernel
theorem dX1_bitsOfEarningsByTheDay_26 : decode cX1_bitsOfEarningsByTheDay 26 = .ok (.ireturn, 1) := by decide +kernel
theorem dX1_bitsOf_0 : decode cX1_bitsOf 0 = .ok (.fload_n 0, 1) := by decide +kernel
theorem dX1_bitsOf_1 : decode cX1_bitsOf 1 = .ok (.fconst 0, 1) := by decide +kernel
theorem dX1_bitsOf_2 : decode cX1_bitsOf 2 = .ok (.fcmp .g, 1) := by decide +kernel
theorem dX1_bitsOf_3 : decode cX1_bitsOf 3 = .ok (.ifCond .ge 8, 3) := by decide +kernel
theorem dX1_bitsOf_6 : decode cX1_bitsOf 6 = .ok (.ldc 39, 2) := by decide +kernel
theorem dX1_bitsOf_8 : decode cX1_bitsOf 8 = .ok (.goto 4, 3) := by decide +kernel
theorem dX1_bitsOf_11 : decode cX1_bitsOf 11 = .ok (.iconst 0, 1) := by decide +kernel
theorem dX1_bitsOf_12 : decode cX1_bitsOf 12 = .ok (.istore_n 1, 1) := by decide +kernel
theorem dX1_bitsOf_13 : decode cX1_bitsOf 13 = .ok (.fload_n 0, 1) := by decide +kernel
theorem dX1_bitsOf_14 : decode cX1_bitsOf 14 = .ok (.fconst 0, 1) := by decide +kernel
theorem dX1_bitsOf_15 : decode cX1_bitsOf 15 = .ok (.fcmp .g, 1) := by decide +kernel
theorem dX1_bitsOf_16 : decode cX1_bitsOf 16 = .ok (.ifCond .ge 8, 3) := by decide +kernel
theorem dX1_bitsOf_19 : decode cX1_bitsOf 19 = .ok (.fload_n 0, 1) := by decide +kernel
theorem dX1_bitsOf_20 : decode cX1_bitsOf 20 = .ok (.fneg, 1) := by decide +kernel
theorem dX1_bitsOf_21 : decode cX1_bitsOf 21 = .ok (.goto 4, 3) := by decide +kernel
theorem dX1_bitsOf_24 : decode cX1_bitsOf 24 = .ok (.fload_n 0, 1) := by decide +kernel
theorem dX1_bitsOf_25 : decode cX1_bitsOf 25 = .ok (.fstore_n 2, 1) := by decide +kernel
theorem dX1_bitsOf_26 : decode cX1_bitsOf 26 = .ok (.sipush 150, 3) := by decide +kernel
theorem dX1_bitsOf_29 : decode cX1_bitsOf 29 = .ok (.istore_n 3, 1) := by decide +kernel
theorem dX1_bitsOf_30 : decode cX1_bitsOf 30 = .ok (.iload_n 3, 1) := by decide +kernel
theorem dX1_bitsOf_31 : decode cX1_bitsOf 31 = .ok (.ifCond .le 33, 3) := by decide +kernel
theorem dX1_bitsOf_34 : decode cX1_bitsOf 34 = .ok (.fload_n 2, 1) := by decide +kernel
theorem dX1_bitsOf_35 : decode cX1_bitsOf 35 = .ok (.ldc 40, 2) := by decide +kernel
theorem dX1_bitsOf_37 : decode cX1_bitsOf 37 = .ok (.fcmp .l, 1) := by decide +kernel
theorem dX1_bitsOf_38 : decode cX1_bitsOf 38 = .ok (.ifCond .lt 16, 3) := by decide +kernel
theorem dX1_bitsOf_41 : decode cX1_bitsOf 41 = .ok (.iload_n 1, 1) := by decide +kernel
theorem dX1_bitsOf_42 : decode cX1_bitsOf 42 = .ok (.iload_n 3, 1) := by decide +kernel
theorem dX1_bitsOf_43 : decode cX1_bitsOf 43 = .ok (.bipush 23, 2) := by decide +kernel
theorem dX1_bitsOf_45 : decode cX1_bitsOf 45 = .ok (.ishl, 1) := by decide +kernel
theorem dX1_bitsOf_46 : decode cX1_bitsOf 46 = .ok (.ior, 1) := by decide +kernel
theorem dX1_bitsOf_47 : decode cX1_bitsOf 47 = .ok (.fload_n 2, 1) := by decide +kernel
theorem dX1_bitsOf_48 : decode cX1_bitsOf 48 = .ok (.f2i, 1) := by decide +kernel
theorem dX1_bitsOf_49 : decode cX1_bitsOf 49 = .ok (.ldc 41, 2) := by decide +kernel
theorem dX1_bitsOf_51 : decode cX1_bitsOf 51 = .ok (.iand, 1) := by decide +kernel
theorem dX1_bitsOf_52 : decode cX1_bitsOf 52 = .ok (.ior, 1) := by decide +kernel
theorem dX1_bitsOf_53 : decode cX1_bitsOf 53 = .ok (.ireturn, 1) := by decide +kernel
theorem dX1_bitsOf_54 : decode cX1_bitsOf 54 = .ok (.fload_n 2, 1) := by decide +kernel
theorem dX1_bitsOf_55 : decode cX1_bitsOf 55 = .ok (.fconst 2, 1) := by decide +kernel
theorem dX1_bitsOf_56 : decode cX1_bitsOf 56 = .ok (.fmul, 1) := by decide +kernel
theorem dX1_bitsOf_57 : decode cX1_bitsOf 57 = .ok (.fstore_n 2, 1) := by decide +kernel
theorem dX1_bitsOf_58 : decode cX1_bitsOf 58 = .ok (.iinc 3 (-1), 3) := by decide +kernel
theorem dX1_bitsOf_61 : decode cX1_bitsOf 61 = .ok (.goto (-31), 3) := by decide +kernel
theorem dX1_bitsOf_64 : decode cX1_bitsOf 64 = .ok (.iconst 0, 1) := by decide +kernel
theorem dX1_bitsOf_65 : decode cX1_bitsOf 65 = .ok (.ireturn, 1) := by decide +kernel
theorem dX2_init_0 : decode cX2_init 0 = .ok (.aload_n 0, 1) := by decide +kernel
theorem dX2_init_1 : decode cX2_init 1 = .ok (.invokespecial 3, 3) := by decide +kernel
theorem dX2_init_4 : decode cX2_init 4 = .ok (.aload_n 0, 1) := by decide +kernel
theorem dX2_init_5 : decode cX2_init 5 = .ok (.bipush 8, 2) := by decide +kernel
theorem dX2_init_7 : decode cX2_init 7 = .ok (.newarray .int, 2) := by decide +kernel
theorem dX2_init_9 : decode cX2_init 9 = .ok (.putfield 9, 3) := by decide +kernel
theorem dX2_init_12 : decode cX2_init 12 = .ok (.aload_n 0, 1) := by decide +kernel
theorem dX2_init_13 : decode cX2_init 13 = .ok (.bipush 8, 2) := by decide +kernel
theorem dX2_init_15 : decode cX2_init 15 = .ok (.newarray .int, 2) := by decide +kernel
theorem dX2_init_17 : decode cX2_init 17 = .ok (.putfield 15, 3) := by decide +kernel
theorem dX2_init_20 : decode cX2_init 20 = .ok (.aload_n 0, 1) := by decide +kernel
theorem dX2_init_21 : decode cX2_init 21 = .ok (.iconst 5, 1) := by decide +kernel
theorem dX2_init_22 : decode cX2_init 22 = .ok (.anewarray 18, 3) := by decide +kernel
theorem dX2_init_25 : decode cX2_init 25 = .ok (.putfield 20, 3) := by decide +kernel
theorem dX2_init_28 : decode cX2_init 28 = .ok (.aload_n 0, 1) := by decide +kernel
theorem dX2_init_29 : decode cX2_init 29 = .ok (.bipush 10, 2) := by decide +kernel
theorem dX2_init_31 : decode cX2_init 31 = .ok (.anewarray 24, 3) := by decide +kernel
theorem dX2_init_34 : decode cX2_init 34 = .ok (.putfield 26, 3) := by decide +kernel
theorem dX2_init_37 : decode cX2_init 37 = .ok (.aload_n 0, 1) := by decide +kernel
theorem dX2_init_38 : decode cX2_init 38 = .ok (.new 30, 3) := by decide +kernel
theorem dX2_init_41 : decode cX2_init 41 = .ok (.dup, 1) := by decide +kernel
theorem dX2_init_42 : decode cX2_init 42 = .ok (.invokespecial 32, 3) := by decide +kernel
theorem dX2_init_45 : decode cX2_init 45 = .ok (.putfield 33, 3) := by decide +kernel
theorem dX2_init_48 : decode cX2_init 48 = .ok (.iconst 0, 1) := by decide +kernel
theorem dX2_init_49 : decode cX2_init 49 = .ok (.istore_n 1, 1) := by decide +kernel
theorem dX2_init_50 : decode cX2_init 50 = .ok (.iload_n 1, 1) := by decide +kernel
theorem dX2_init_51 : decode cX2_init 51 = .ok (.bipush 8, 2) := by decide +kernel
theorem dX2_init_53 : decode cX2_init 53 = .ok (.if_icmp .ge 30, 3) := by decide +kernel
theorem dX2_init_56 : decode cX2_init 56 = .ok (.aload_n 0, 1) := by decide +kernel
theorem dX2_init_57 : decode cX2_init 57 = .ok (.getfield 9, 3) := by decide +kernel
theorem dX2_init_60 : decode cX2_init 60 = .ok (.iload_n 1, 1) := by decide +kernel
theorem dX2_init_61 : decode cX2_init 61 = .ok (.bipush 10, 2) := by decide +kernel
theorem dX2_init_63 : decode cX2_init 63 = .ok (.iload_n 1, 1) := by decide +kernel
theorem dX2_init_64 : decode cX2_init 64 = .ok (.imul, 1) := by decide +kernel
theorem dX2_init_65 : decode cX2_init 65 = .ok (.iastore, 1) := by decide +kernel
theorem dX2_init_66 : decode cX2_init 66 = .ok (.aload_n 0, 1) := by decide +kernel
theorem dX2_init_67 : decode cX2_init 67 = .ok (.getfield 15, 3) := by decide +kernel
theorem dX2_init_70 : decode cX2_init 70 = .ok (.iload_n 1, 1) := by decide +kernel
theorem dX2_init_71 : decode cX2_init 71 = .ok (.iconst 5, 1) := by decide +kernel
theorem dX2_init_72 : decode cX2_init 72 = .ok (.iload_n 1, 1) := by decide +kernel
theorem dX2_init_73 : decode cX2_init 73 = .ok (.iconst 3, 1) := by decide +kernel
theorem dX2_init_74 : decode cX2_init 74 = .ok (.irem, 1) := by decide +kernel
theorem dX2_init_75 : decode cX2_init 75 = .ok (.imul, 1) := by decide +kernel
theorem dX2_init_76 : decode cX2_init 76 = .ok (.iastore, 1) := by decide +kernel
theorem dX2_init_77 : decode cX2_init 77 = .ok (.iinc 1 1, 3) := by decide +kernel
theorem dX2_init_80 : decode cX2_init 80 = .ok (.goto (-30), 3) := by decide +kernel
theorem dX2_init_83 : decode cX2_init 83 = .ok (.iconst 0, 1) := by decide +kernel
theorem dX2_init_84 : decode cX2_init 84 = .ok (.istore_n 1, 1) := by decide +kernel
theorem dX2_init_85 : decode cX2_init 85 = .ok (.iload_n 1, 1) := by decide +kernel
theorem dX2_init_86 : decode cX2_init 86 = .ok (.iconst 5, 1) := by decide +kernel
theorem dX2_init_87 : decode cX2_init 87 = .ok (.if_icmp .ge 22, 3) := by decide +kernel
theorem dX2_init_90 : decode cX2_init 90 = .ok (.aload_n 0, 1) := by decide +kernel
theorem dX2_init_91 : decode cX2_init 91 = .ok (.getfield 20, 3) := by decide +kernel
theorem dX2_init_94 : decode cX2_init 94 = .ok (.iload_n 1, 1) := by decide +kernel
theorem dX2_init_95 : decode cX2_init 95 = .ok (.new 18, 3) := by decide +kernel
theorem dX2_init_98 : decode cX2_init 98 = .ok (.dup, 1) := by decide +kernel
theorem dX2_init_99 : decode cX2_init 99 = .ok (.invokespecial 37, 3) := by decide +kernel
theorem dX2_init_102 : decode cX2_init 102 = .ok (.aastore, 1) := by decide +kernel
theorem dX2_init_103 : decode cX2_init 103 = .ok (.iinc 1 1, 3) := by decide +kernel
theorem dX2_init_106 : decode cX2_init 106 = .ok (.goto (-21), 3) := by decide +kernel
theorem dX2_init_109 : decode cX2_init 109 = .ok (.iconst 0, 1) := by decide +kernel
theorem dX2_init_110 : decode cX2_init 110 = .ok (.istore_n 1, 1) := by decide +kernel
theorem dX2_init_111 : decode cX2_init 111 = .ok (.iload_n 1, 1) := by decide +kernel
theorem dX2_init_112 : decode cX2_init 112 = .ok (.bipush 10, 2) := by decide +kernel
theorem dX2_init_114 : decode cX2_init 114 = .ok (.if_icmp .ge 22, 3) := by decide +kernel
theorem dX2_init_117 : decode cX2_init 117 = .ok (.aload_n 0, 1) := by decide +kernel
theorem dX2_init_118 : decode cX2_init 118 = .ok (.getfield 26, 3) := by decide +kernel
theorem dX2_init_121 : decode cX2_init 121 = .ok (.iload_n 1, 1) := by decide +kernel
theorem dX2_init_122 : decode cX2_init 122 = .ok (.new 24, 3) := by decide +kernel
theorem dX2_init_125 : decode cX2_init 125 = .ok (.dup, 1) := by decide +kernel
theorem dX2_init_126 : decode cX2_init 126 = .ok (.invokespecial 38, 3) := by decide +kernel
theorem dX2_init_129 : decode cX2_init 129 = .ok (.aastore, 1) := by decide +kernel
theorem dX2_init_130 : decode cX2_init 130 = .ok (.iinc 1 1, 3) := by decide +kernel
theorem dX2_init_133 : decode cX2_init 133 = .ok (.goto (-22), 3) := by decide +kernel
theorem dX2_init_136 : decode cX2_init 136 = .ok (.return_, 1) := by decide +kernel
theorem dX2_copyFrom_0 : decode cX2_copyFrom 0 = .ok (.aload_n 1, 1) := by decide +kernel
theorem dX2_copyFrom_1 : decode cX2_copyFrom 1 = .ok (.getfield 9, 3) := by decide +kernel
theorem dX2_copyFrom_4 : decode cX2_copyFrom 4 = .ok (.iconst 0, 1) := by decide +kernel
theorem dX2_copyFrom_5 : decode cX2_copyFrom 5 = .ok (.aload_n 0, 1) := by decide +kernel
theorem dX2_copyFrom_6 : decode cX2_copyFrom 6 = .ok (.getfield 9, 3) := by decide +kernel
theorem dX2_copyFrom_9 : decode cX2_copyFrom 9 = .ok (.iconst 0, 1) := by decide +kernel
theorem dX2_copyFrom_10 : decode cX2_copyFrom 10 = .ok (.bipush 8, 2) := by decide +kernel
theorem dX2_copyFrom_12 : decode cX2_copyFrom 12 = .ok (.invokestatic 39, 3) := by decide +kernel
theorem dX2_copyFrom_15 : decode cX2_copyFrom 15 = .ok (.aload_n 1, 1) := by decide +kernel
theorem dX2_copyFrom_16 : decode cX2_copyFrom 16 = .ok (.getfield 15, 3) := by decide +kernel
theorem dX2_copyFrom_19 : decode cX2_copyFrom 19 = .ok (.iconst 0, 1) := by decide +kernel
theorem dX2_copyFrom_20 : decode cX2_copyFrom 20 = .ok (.aload_n 0, 1) := by decide +kernel
theorem dX2_copyFrom_21 : decode cX2_copyFrom 21 = .ok (.getfield 15, 3) := by decide +kernel
theorem dX2_copyFrom_24 : decode cX2_copyFrom 24 = .ok (.iconst 0, 1) := by decide +kernel
theorem dX2_copyFrom_25 : decode cX2_copyFrom 25 = .ok (.bipush 8, 2) := by decide +kernel
theorem dX2_copyFrom_27 : decode cX2_copyFrom 27 = .ok (.invokestatic 39, 3) := by decide +kernel
theorem dX2_copyFrom_30 : decode cX2_copyFrom 30 = .ok (.iconst 0, 1) := by decide +kernel
theorem dX2_copyFrom_31 : decode cX2_copyFrom 31 = .ok (.istore_n 2, 1) := by decide +kernel
theorem dX2_copyFrom_32 : decode cX2_copyFrom 32 = .ok (.iload_n 2, 1) := by decide +kernel
theorem dX2_copyFrom_33 : decode cX2_copyFrom 33 = .ok (.iconst 5, 1) := by decide +kernel
theorem dX2_copyFrom_34 : decode cX2_copyFrom 34 = .ok (.if_icmp .ge 24, 3) := by decide +kernel
theorem dX2_copyFrom_37 : decode cX2_copyFrom 37 = .ok (.aload_n 0, 1) := by decide +kernel
theorem dX2_copyFrom_38 : decode cX2_copyFrom 38 = .ok (.getfield 20, 3) := by decide +kernel
theorem dX2_copyFrom_41 : decode cX2_copyFrom 41 = .ok (.iload_n 2, 1) := by decide +kernel
theorem dX2_copyFrom_42 : decode cX2_copyFrom 42 = .ok (.aaload, 1) := by decide +kernel
theorem dX2_copyFrom_43 : decode cX2_copyFrom 43 = .ok (.aload_n 1, 1) := by decide +kernel
theorem dX2_copyFrom_44 : decode cX2_copyFrom 44 = .ok (.getfield 20, 3) := by decide +kernel
theorem dX2_copyFrom_47 : decode cX2_copyFrom 47 = .ok (.iload_n 2, 1) := by decide +kernel
theorem dX2_copyFrom_48 : decode cX2_copyFrom 48 = .ok (.aaload, 1) := by decide +kernel
theorem dX2_copyFrom_49 : decode cX2_copyFrom 49 = .ok (.invokevirtual 45, 3) := by decide +kernel
theorem dX2_copyFrom_52 : decode cX2_copyFrom 52 = .ok (.iinc 2 1, 3) := by decide +kernel
theorem dX2_copyFrom_55 : decode cX2_copyFrom 55 = .ok (.goto (-23), 3) := by decide +kernel
theorem dX2_copyFrom_58 : decode cX2_copyFrom 58 = .ok (.iconst 0, 1) := by decide +kernel
theorem dX2_copyFrom_59 : decode cX2_copyFrom 59 = .ok (.istore_n 2, 1) := by decide +kernel
theorem dX2_copyFrom_60 : decode cX2_copyFrom 60 = .ok (.iload_n 2, 1) := by decide +kernel
theorem dX2_copyFrom_61 : decode cX2_copyFrom 61 = .ok (.bipush 10, 2) := by decide +kernel
theorem dX2_copyFrom_63 : decode cX2_copyFrom 63 = .ok (.if_icmp .ge 24, 3) := by decide +kernel
theorem dX2_copyFrom_66 : decode cX2_copyFrom 66 = .ok (.aload_n 0, 1) := by decide +kernel
theorem dX2_copyFrom_67 : decode cX2_copyFrom 67 = .ok (.getfield 26, 3) := by decide +kernel
theorem dX2_copyFrom_70 : decode cX2_copyFrom 70 = .ok (.iload_n 2, 1) := by decide +kernel
theorem dX2_copyFrom_71 : decode cX2_copyFrom 71 = .ok (.aaload, 1) := by decide +kernel
theorem dX2_copyFrom_72 : decode cX2_copyFrom 72 = .ok (.aload_n 1, 1) := by decide +kernel
theorem dX2_copyFrom_73 : decode cX2_copyFrom 73 = .ok (.getfield 26, 3) := by decide +kernel
theorem dX2_copyFrom_76 : decode cX2_copyFrom 76 = .ok (.iload_n 2, 1) := by decide +kernel
theorem dX2_copyFrom_77 : decode cX2_copyFrom 77 = .ok (.aaload, 1) := by decide +kernel
theorem dX2_copyFrom_78 : decode cX2_copyFrom 78 = .ok (.invokevirtual 49, 3) := by decide +kernel
theorem dX2_copyFrom_81 : decode cX2_copyFrom 81 = .ok (.iinc 2 1, 3) := by decide +kernel
theorem dX2_copyFrom_84 : decode cX2_copyFrom 84 = .ok (.goto (-24), 3) := by decide +kernel
theorem dX2_copyFrom_87 : decode cX2_copyFrom 87 = .ok (.aload_n 0, 1) := by decide +kernel
theorem dX2_copyFrom_88 : decode cX2_copyFrom 88 = .ok (.aload_n 1, 1) := by decide +kernel
theorem dX2_copyFrom_89 : decode cX2_copyFrom 89 = .ok (.getfield 52, 3) := by decide +kernel
theorem dX2_copyFrom_92 : decode cX2_copyFrom 92 = .ok (.putfield 52, 3) := by decide +kernel
theorem dX2_copyFrom_95 : decode cX2_copyFrom 95 = .ok (.aload_n 0, 1) := by decide +kernel
theorem dX2_copyFrom_96 : decode cX2_copyFrom 96 = .ok (.aload_n 1, 1) := by decide +kernel
theorem dX2_copyFrom_97 : decode cX2_copyFrom 97 = .ok (.getfield 56, 3) := by decide +kernel
theorem dX2_copyFrom_100 : decode cX2_copyFrom 100 = .ok (.putfield 56, 3) := by decide +kernel
theorem dX2_copyFrom_103 : decode cX2_copyFrom 103 = .ok (.aload_n 0, 1) := by decide +kernel
theorem dX2_copyFrom_104 : decode cX2_copyFrom 104 = .ok (.aload_n 1, 1) := by decide +kernel
theorem dX2_copyFrom_105 : decode cX2_copyFrom 105 = .ok (.getfield 59, 3) := by decide +kernel
theorem dX2_copyFrom_108 : decode cX2_copyFrom 108 = .ok (.putfield 59, 3) := by decide +kernel
theorem dX2_copyFrom_111 : decode cX2_copyFrom 111 = .ok (.aload_n 0, 1) := by decide +kernel
theorem dX2_copyFrom_112 : decode cX2_copyFrom 112 = .ok (.aload_n 1, 1) := by decide +kernel
theorem dX2_copyFrom_113 : decode cX2_copyFrom 113 = .ok (.getfield 62, 3) := by decide +kernel
theorem dX2_copyFrom_116 : decode cX2_copyFrom 116 = .ok (.putfield 62, 3) := by decide +kernel
theorem dX2_copyFrom_119 : decode cX2_copyFrom 119 = .ok (.return_, 1) := by decide +kernel
theorem dX2_isShip_0 : decode cX2_isShip 0 = .ok (.iload_n 1, 1) := by decide +kernel
theorem dX2_isShip_1 : decode cX2_isShip 1 = .ok (.ifCond .lt 15, 3) := by decide +kernel
theorem dX2_isShip_4 : decode cX2_isShip 4 = .ok (.iload_n 1, 1) := by decide +kernel
theorem dX2_isShip_5 : decode cX2_isShip 5 = .ok (.aload_n 0, 1) := by decide +kernel
theorem dX2_isShip_6 : decode cX2_isShip 6 = .ok (.getfield 52, 3) := by decide +kernel
theorem dX2_isShip_9 : decode cX2_isShip 9 = .ok (.if_icmp .ge 7, 3) := by decide +kernel
theorem dX2_isShip_12 : decode cX2_isShip 12 = .ok (.iconst 1, 1) := by decide +kernel
theorem dX2_isShip_13 : decode cX2_isShip 13 = .ok (.goto 4, 3) := by decide +kernel
theorem dX2_isShip_16 : decode cX2_isShip 16 = .ok (.iconst 0, 1) := by decide +kernel
theorem dX2_isShip_17 : decode cX2_isShip 17 = .ok (.ireturn, 1) := by decide +kernel
theorem dX2_isCargo_0 : decode cX2_isCargo 0 = .ok (.iload_n 1, 1) := by decide +kernel
theorem dX2_isCargo_1 : decode cX2_isCargo 1 = .ok (.ifCond .lt 15, 3) := by decide +kernel
theorem dX2_isCargo_4 : decode cX2_isCargo 4 = .ok (.iload_n 1, 1) := by decide +kernel
theorem dX2_isCargo_5 : decode cX2_isCargo 5 = .ok (.aload_n 0, 1) := by decide +kernel
theorem dX2_isCargo_6 : decode cX2_isCargo 6 = .ok (.getfield 56, 3) := by decide +kernel
theorem dX2_isCargo_9 : decode cX2_isCargo 9 = .ok (.if_icmp .ge 7, 3) := by decide +kernel
theorem dX2_isCargo_12 : decode cX2_isCargo 12 = .ok (.iconst 1, 1) := by decide +kernel
theorem dX2_isCargo_13 : decode cX2_isCargo 13 = .ok (.goto 4, 3) := by decide +kernel
theorem dX2_isCargo_16 : decode cX2_isCargo 16 = .ok (.iconst 0, 1) := by decide +kernel
theorem dX2_isCargo_17 : decode cX2_isCargo 17 = .ok (.ireturn, 1) := by decide +kernel
theorem dX2_movePort_0 : decode cX2_movePort 0 = .ok (.iload_n 1, 1) := by decide +kernel
theorem dX2_movePort_1 : decode cX2_movePort 1 = .ok (.invokestatic 65, 3) := by decide +kernel
theorem dX2_movePort_4 : decode cX2_movePort 4 = .ok (.ifCond .eq 23, 3) := by decide +kernel
theorem dX2_movePort_7 : decode cX2_movePort 7 = .ok (.iload_n 2, 1) := by decide +kernel
theorem dX2_movePort_8 : decode cX2_movePort 8 = .ok (.iconst 0, 1) := by decide +kernel
theorem dX2_movePort_9 : decode cX2_movePort 9 = .ok (.bipush 99, 2) := by decide +kernel
theorem dX2_movePort_11 : decode cX2_movePort 11 = .ok (.invokestatic 69, 3) := by decide +kernel
theorem dX2_movePort_14 : decode cX2_movePort 14 = .ok (.ifCond .eq 13, 3) := by decide +kernel
theorem dX2_movePort_17 : decode cX2_movePort 17 = .ok (.iload_n 3, 1) := by decide +kernel
theorem dX2_movePort_18 : decode cX2_movePort 18 = .ok (.iconst 0, 1) := by decide +kernel
theorem dX2_movePort_19 : decode cX2_movePort 19 = .ok (.bipush 99, 2) := by decide +kernel
theorem dX2_movePort_21 : decode cX2_movePort 21 = .ok (.invokestatic 69, 3) := by decide +kernel
theorem dX2_movePort_24 : decode cX2_movePort 24 = .ok (.ifCond .ne 6, 3) := by decide +kernel
theorem dX2_movePort_27 : decode cX2_movePort 27 = .ok (.ldc 73, 2) := by decide +kernel
theorem dX2_movePort_29 : decode cX2_movePort 29 = .ok (.ireturn, 1) := by decide +kernel
theorem dX2_movePort_30 : decode cX2_movePort 30 = .ok (.aload_n 0, 1) := by decide +kernel
theorem dX2_movePort_31 : decode cX2_movePort 31 = .ok (.iconst 1, 1) := by decide +kernel
theorem dX2_movePort_32 : decode cX2_movePort 32 = .ok (.invokevirtual 74, 3) := by decide +kernel
theorem dX2_movePort_35 : decode cX2_movePort 35 = .ok (.ifCond .le 6, 3) := by decide +kernel
theorem dX2_movePort_38 : decode cX2_movePort 38 = .ok (.ldc 78, 2) := by decide +kernel
theorem dX2_movePort_40 : decode cX2_movePort 40 = .ok (.ireturn, 1) := by decide +kernel
theorem dX2_movePort_41 : decode cX2_movePort 41 = .ok (.bipush 100, 2) := by decide +kernel
theorem dX2_movePort_43 : decode cX2_movePort 43 = .ok (.aload_n 0, 1) := by decide +kernel
theorem dX2_movePort_44 : decode cX2_movePort 44 = .ok (.getfield 9, 3) := by decide +kernel
theorem dX2_movePort_47 : decode cX2_movePort 47 = .ok (.iload_n 1, 1) := by decide +kernel
theorem dX2_movePort_48 : decode cX2_movePort 48 = .ok (.iaload, 1) := by decide +kernel
theorem dX2_movePort_49 : decode cX2_movePort 49 = .ok (.imul, 1) := by decide +kernel
theorem dX2_movePort_50 : decode cX2_movePort 50 = .ok (.aload_n 0, 1) := by decide +kernel
theorem dX2_movePort_51 : decode cX2_movePort 51 = .ok (.getfield 15, 3) := by decide +kernel
theorem dX2_movePort_54 : decode cX2_movePort 54 = .ok (.iload_n 1, 1) := by decide +kernel
theorem dX2_movePort_55 : decode cX2_movePort 55 = .ok (.iaload, 1) := by decide +kernel
theorem dX2_movePort_56 : decode cX2_movePort 56 = .ok (.iadd, 1) := by decide +kernel
theorem dX2_movePort_57 : decode cX2_movePort 57 = .ok (.istore 4, 2) := by decide +kernel
theorem dX2_movePort_59 : decode cX2_movePort 59 = .ok (.aload_n 0, 1) := by decide +kernel
theorem dX2_movePort_60 : decode cX2_movePort 60 = .ok (.getfield 9, 3) := by decide +kernel
theorem dX2_movePort_63 : decode cX2_movePort 63 = .ok (.iload_n 1, 1) := by decide +kernel
theorem dX2_movePort_64 : decode cX2_movePort 64 = .ok (.iload_n 2, 1) := by decide +kernel
theorem dX2_movePort_65 : decode cX2_movePort 65 = .ok (.iastore, 1) := by decide +kernel
theorem dX2_movePort_66 : decode cX2_movePort 66 = .ok (.aload_n 0, 1) := by decide +kernel
theorem dX2_movePort_67 : decode cX2_movePort 67 = .ok (.getfield 15, 3) := by decide +kernel
theorem dX2_movePort_70 : decode cX2_movePort 70 = .ok (.iload_n 1, 1) := by decide +kernel
theorem dX2_movePort_71 : decode cX2_movePort 71 = .ok (.iload_n 3, 1) := by decide +kernel
theorem dX2_movePort_72 : decode cX2_movePort 72 = .ok (.iastore, 1) := by decide +kernel
theorem dX2_movePort_73 : decode cX2_movePort 73 = .ok (.iload 4, 2) := by decide +kernel
theorem dX2_movePort_75 : decode cX2_movePort 75 = .ok (.ireturn, 1) := by decide +kernel
theorem dX2_addShip_0 : decode cX2_addShip 0 = .ok (.iload_n 1, 1) := by decide +kernel
theorem dX2_addShip_1 : decode cX2_addShip 1 = .ok (.iconst 1, 1) := by decide +kernel
theorem dX2_addShip_2 : decode cX2_addShip 2 = .ok (.bipush 99, 2) := by decide +kernel
theorem dX2_addShip_4 : decode cX2_addShip 4 = .ok (.invokestatic 69, 3) := by decide +kernel
theorem dX2_addShip_7 : decode cX2_addShip 7 = .ok (.ifCond .eq 43, 3) := by decide +kernel
theorem dX2_addShip_10 : decode cX2_addShip 10 = .ok (.iload_n 2, 1) := by decide +kernel
theorem dX2_addShip_11 : decode cX2_addShip 11 = .ok (.iconst 1, 1) := by decide +kernel
theorem dX2_addShip_12 : decode cX2_addShip 12 = .ok (.bipush 20, 2) := by decide +kernel
theorem dX2_addShip_14 : decode cX2_addShip 14 = .ok (.invokestatic 69, 3) := by decide +kernel
theorem dX2_addShip_17 : decode cX2_addShip 17 = .ok (.ifCond .eq 33, 3) := by decide +kernel
theorem dX2_addShip_20 : decode cX2_addShip 20 = .ok (.iload_n 3, 1) := by decide +kernel
theorem dX2_addShip_21 : decode cX2_addShip 21 = .ok (.iconst 1, 1) := by decide +kernel
theorem dX2_addShip_22 : decode cX2_addShip 22 = .ok (.bipush 99, 2) := by decide +kernel
theorem dX2_addShip_24 : decode cX2_addShip 24 = .ok (.invokestatic 69, 3) := by decide +kernel
theorem dX2_addShip_27 : decode cX2_addShip 27 = .ok (.ifCond .eq 23, 3) := by decide +kernel
theorem dX2_addShip_30 : decode cX2_addShip 30 = .ok (.iload 4, 2) := by decide +kernel
theorem dX2_addShip_32 : decode cX2_addShip 32 = .ok (.invokestatic 65, 3) := by decide +kernel
theorem dX2_addShip_35 : decode cX2_addShip 35 = .ok (.ifCond .eq 15, 3) := by decide +kernel
theorem dX2_addShip_38 : decode cX2_addShip 38 = .ok (.iload 5, 2) := by decide +kernel
theorem dX2_addShip_40 : decode cX2_addShip 40 = .ok (.iconst 0, 1) := by decide +kernel
theorem dX2_addShip_41 : decode cX2_addShip 41 = .ok (.sipush 999, 3) := by decide +kernel
theorem dX2_addShip_44 : decode cX2_addShip 44 = .ok (.invokestatic 69, 3) := by decide +kernel
theorem dX2_addShip_47 : decode cX2_addShip 47 = .ok (.ifCond .ne 6, 3) := by decide +kernel
theorem dX2_addShip_50 : decode cX2_addShip 50 = .ok (.ldc 73, 2) := by decide +kernel
theorem dX2_addShip_52 : decode cX2_addShip 52 = .ok (.ireturn, 1) := by decide +kernel
theorem dX2_addShip_53 : decode cX2_addShip 53 = .ok (.aload_n 0, 1) := by decide +kernel
theorem dX2_addShip_54 : decode cX2_addShip 54 = .ok (.getfield 52, 3) := by decide +kernel
theorem dX2_addShip_57 : decode cX2_addShip 57 = .ok (.iconst 5, 1) := by decide +kernel
theorem dX2_addShip_58 : decode cX2_addShip 58 = .ok (.if_icmp .lt 6, 3) := by decide +kernel
theorem dX2_addShip_61 : decode cX2_addShip 61 = .ok (.ldc 79, 2) := by decide +kernel
theorem dX2_addShip_63 : decode cX2_addShip 63 = .ok (.ireturn, 1) := by decide +kernel
theorem dX2_addShip_64 : decode cX2_addShip 64 = .ok (.aload_n 0, 1) := by decide +kernel
theorem dX2_addShip_65 : decode cX2_addShip 65 = .ok (.getfield 20, 3) := by decide +kernel
theorem dX2_addShip_68 : decode cX2_addShip 68 = .ok (.aload_n 0, 1) := by decide +kernel
theorem dX2_addShip_69 : decode cX2_addShip 69 = .ok (.getfield 52, 3) := by decide +kernel
theorem dX2_addShip_72 : decode cX2_addShip 72 = .ok (.aaload, 1) := by decide +kernel
theorem dX2_addShip_73 : decode cX2_addShip 73 = .ok (.astore 6, 2) := by decide +kernel
theorem dX2_addShip_75 : decode cX2_addShip 75 = .ok (.aload 6, 2) := by decide +kernel
theorem dX2_addShip_77 : decode cX2_addShip 77 = .ok (.iload_n 1, 1) := by decide +kernel
theorem dX2_addShip_78 : decode cX2_addShip 78 = .ok (.putfield 80, 3) := by decide +kernel
theorem dX2_addShip_81 : decode cX2_addShip 81 = .ok (.aload 6, 2) := by decide +kernel
theorem dX2_addShip_83 : decode cX2_addShip 83 = .ok (.iload_n 2, 1) := by decide +kernel
theorem dX2_addShip_84 : decode cX2_addShip 84 = .ok (.putfield 83, 3) := by decide +kernel
theorem dX2_addShip_87 : decode cX2_addShip 87 = .ok (.aload 6, 2) := by decide +kernel
theorem dX2_addShip_89 : decode cX2_addShip 89 = .ok (.iload_n 3, 1) := by decide +kernel
theorem dX2_addShip_90 : decode cX2_addShip 90 = .ok (.putfield 86, 3) := by decide +kernel
theorem dX2_addShip_93 : decode cX2_addShip 93 = .ok (.aload 6, 2) := by decide +kernel
theorem dX2_addShip_95 : decode cX2_addShip 95 = .ok (.iload 4, 2) := by decide +kernel
theorem dX2_addShip_97 : decode cX2_addShip 97 = .ok (.putfield 89, 3) := by decide +kernel
theorem dX2_addShip_100 : decode cX2_addShip 100 = .ok (.aload 6, 2) := by decide +kernel
theorem dX2_addShip_102 : decode cX2_addShip 102 = .ok (.iload 5, 2) := by decide +kernel
theorem dX2_addShip_104 : decode cX2_addShip 104 = .ok (.putfield 92, 3) := by decide +kernel
theorem dX2_addShip_107 : decode cX2_addShip 107 = .ok (.aload_n 0, 1) := by decide +kernel
theorem dX2_addShip_108 : decode cX2_addShip 108 = .ok (.dup, 1) := by decide +kernel
theorem dX2_addShip_109 : decode cX2_addShip 109 = .ok (.getfield 52, 3) := by decide +kernel
theorem dX2_addShip_112 : decode cX2_addShip 112 = .ok (.dup_x1, 1) := by decide +kernel
theorem dX2_addShip_113 : decode cX2_addShip 113 = .ok (.iconst 1, 1) := by decide +kernel
theorem dX2_addShip_114 : decode cX2_addShip 114 = .ok (.iadd, 1) := by decide +kernel
theorem dX2_addShip_115 : decode cX2_addShip 115 = .ok (.putfield 52, 3) := by decide +kernel
theorem dX2_addShip_118 : decode cX2_addShip 118 = .ok (.ireturn, 1) := by decide +kernel
theorem dX2_addCargo_0 : decode cX2_addCargo 0 = .ok (.iload_n 1, 1) := by decide +kernel
theorem dX2_addCargo_1 : decode cX2_addCargo 1 = .ok (.iconst 1, 1) := by decide +kernel
theorem dX2_addCargo_2 : decode cX2_addCargo 2 = .ok (.bipush 99, 2) := by decide +kernel
theorem dX2_addCargo_4 : decode cX2_addCargo 4 = .ok (.invokestatic 69, 3) := by decide +kernel
theorem dX2_addCargo_7 : decode cX2_addCargo 7 = .ok (.ifCond .eq 58, 3) := by decide +kernel
theorem dX2_addCargo_10 : decode cX2_addCargo 10 = .ok (.iload_n 2, 1) := by decide +kernel
theorem dX2_addCargo_11 : decode cX2_addCargo 11 = .ok (.invokestatic 65, 3) := by decide +kernel
theorem dX2_addCargo_14 : decode cX2_addCargo 14 = .ok (.ifCond .eq 51, 3) := by decide +kernel
theorem dX2_addCargo_17 : decode cX2_addCargo 17 = .ok (.iload_n 3, 1) := by decide +kernel
theorem dX2_addCargo_18 : decode cX2_addCargo 18 = .ok (.invokestatic 65, 3) := by decide +kernel
theorem dX2_addCargo_21 : decode cX2_addCargo 21 = .ok (.ifCond .eq 44, 3) := by decide +kernel
theorem dX2_addCargo_24 : decode cX2_addCargo 24 = .ok (.iload_n 2, 1) := by decide +kernel
theorem dX2_addCargo_25 : decode cX2_addCargo 25 = .ok (.iload_n 3, 1) := by decide +kernel
theorem dX2_addCargo_26 : decode cX2_addCargo 26 = .ok (.if_icmp .eq 39, 3) := by decide +kernel
theorem dX2_addCargo_29 : decode cX2_addCargo 29 = .ok (.iload 4, 2) := by decide +kernel
theorem dX2_addCargo_31 : decode cX2_addCargo 31 = .ok (.iconst 0, 1) := by decide +kernel
theorem dX2_addCargo_32 : decode cX2_addCargo 32 = .ok (.sipush 999, 3) := by decide +kernel
theorem dX2_addCargo_35 : decode cX2_addCargo 35 = .ok (.invokestatic 69, 3) := by decide +kernel
theorem dX2_addCargo_38 : decode cX2_addCargo 38 = .ok (.ifCond .eq 27, 3) := by decide +kernel
theorem dX2_addCargo_41 : decode cX2_addCargo 41 = .ok (.iload 5, 2) := by decide +kernel
theorem dX2_addCargo_43 : decode cX2_addCargo 43 = .ok (.iload 4, 2) := by decide +kernel
theorem dX2_addCargo_45 : decode cX2_addCargo 45 = .ok (.sipush 999, 3) := by decide +kernel
theorem dX2_addCargo_48 : decode cX2_addCargo 48 = .ok (.invokestatic 69, 3) := by decide +kernel
theorem dX2_addCargo_51 : decode cX2_addCargo 51 = .ok (.ifCond .eq 14, 3) := by decide +kernel
theorem dX2_addCargo_54 : decode cX2_addCargo 54 = .ok (.iload 6, 2) := by decide +kernel
theorem dX2_addCargo_56 : decode cX2_addCargo 56 = .ok (.iconst 1, 1) := by decide +kernel
theorem dX2_addCargo_57 : decode cX2_addCargo 57 = .ok (.bipush 99, 2) := by decide +kernel
theorem dX2_addCargo_59 : decode cX2_addCargo 59 = .ok (.invokestatic 69, 3) := by decide +kernel
theorem dX2_addCargo_62 : decode cX2_addCargo 62 = .ok (.ifCond .ne 6, 3) := by decide +kernel
theorem dX2_addCargo_65 : decode cX2_addCargo 65 = .ok (.ldc 73, 2) := by decide +kernel
theorem dX2_addCargo_67 : decode cX2_addCargo 67 = .ok (.ireturn, 1) := by decide +kernel
theorem dX2_addCargo_68 : decode cX2_addCargo 68 = .ok (.aload_n 0, 1) := by decide +kernel
theorem dX2_addCargo_69 : decode cX2_addCargo 69 = .ok (.getfield 56, 3) := by decide +kernel
theorem dX2_addCargo_72 : decode cX2_addCargo 72 = .ok (.bipush 10, 2) := by decide +kernel
theorem dX2_addCargo_74 : decode cX2_addCargo 74 = .ok (.if_icmp .lt 6, 3) := by decide +kernel
theorem dX2_addCargo_77 : decode cX2_addCargo 77 = .ok (.ldc 79, 2) := by decide +kernel
theorem dX2_addCargo_79 : decode cX2_addCargo 79 = .ok (.ireturn, 1) := by decide +kernel
theorem dX2_addCargo_80 : decode cX2_addCargo 80 = .ok (.aload_n 0, 1) := by decide +kernel
theorem dX2_addCargo_81 : decode cX2_addCargo 81 = .ok (.getfield 26, 3) := by decide +kernel
theorem dX2_addCargo_84 : decode cX2_addCargo 84 = .ok (.aload_n 0, 1) := by decide +kernel
theorem dX2_addCargo_85 : decode cX2_addCargo 85 = .ok (.getfield 56, 3) := by decide +kernel
theorem dX2_addCargo_88 : decode cX2_addCargo 88 = .ok (.aaload, 1) := by decide +kernel
theorem dX2_addCargo_89 : decode cX2_addCargo 89 = .ok (.astore 7, 2) := by decide +kernel
theorem dX2_addCargo_91 : decode cX2_addCargo 91 = .ok (.aload 7, 2) := by decide +kernel
theorem dX2_addCargo_93 : decode cX2_addCargo 93 = .ok (.iload_n 1, 1) := by decide +kernel
theorem dX2_addCargo_94 : decode cX2_addCargo 94 = .ok (.putfield 95, 3) := by decide +kernel
theorem dX2_addCargo_97 : decode cX2_addCargo 97 = .ok (.aload 7, 2) := by decide +kernel
theorem dX2_addCargo_99 : decode cX2_addCargo 99 = .ok (.iload_n 2, 1) := by decide +kernel
theorem dX2_addCargo_100 : decode cX2_addCargo 100 = .ok (.putfield 98, 3) := by decide +kernel
theorem dX2_addCargo_103 : decode cX2_addCargo 103 = .ok (.aload 7, 2) := by decide +kernel
theorem dX2_addCargo_105 : decode cX2_addCargo 105 = .ok (.iload_n 3, 1) := by decide +kernel
theorem dX2_addCargo_106 : decode cX2_addCargo 106 = .ok (.putfield 101, 3) := by decide +kernel
theorem dX2_addCargo_109 : decode cX2_addCargo 109 = .ok (.aload 7, 2) := by decide +kernel
theorem dX2_addCargo_111 : decode cX2_addCargo 111 = .ok (.iload 4, 2) := by decide +kernel
theorem dX2_addCargo_113 : decode cX2_addCargo 113 = .ok (.putfield 104, 3) := by decide +kernel
theorem dX2_addCargo_116 : decode cX2_addCargo 116 = .ok (.aload 7, 2) := by decide +kernel
theorem dX2_addCargo_118 : decode cX2_addCargo 118 = .ok (.iload 5, 2) := by decide +kernel
theorem dX2_addCargo_120 : decode cX2_addCargo 120 = .ok (.putfield 107, 3) := by decide +kernel
theorem dX2_addCargo_123 : decode cX2_addCargo 123 = .ok (.aload 7, 2) := by decide +kernel
theorem dX2_addCargo_125 : decode cX2_addCargo 125 = .ok (.iload 6, 2) := by decide +kernel
theorem dX2_addCargo_127 : decode cX2_addCargo 127 = .ok (.putfield 110, 3) := by decide +kernel
theorem dX2_addCargo_130 : decode cX2_addCargo 130 = .ok (.aload_n 0, 1) := by decide +kernel
theorem dX2_addCargo_131 : decode cX2_addCargo 131 = .ok (.dup, 1) := by decide +kernel
theorem dX2_addCargo_132 : decode cX2_addCargo 132 = .ok (.getfield 56, 3) := by decide +kernel
theorem dX2_addCargo_135 : decode cX2_addCargo 135 = .ok (.dup_x1, 1) := by decide +kernel
theorem dX2_addCargo_136 : decode cX2_addCargo 136 = .ok (.iconst 1, 1) := by decide +kernel
theorem dX2_addCargo_137 : decode cX2_addCargo 137 = .ok (.iadd, 1) := by decide +kernel
theorem dX2_addCargo_138 : decode cX2_addCargo 138 = .ok (.putfield 56, 3) := by decide +kernel
theorem dX2_addCargo_141 : decode cX2_addCargo 141 = .ok (.ireturn, 1) := by decide +kernel
theorem dX2_fixShip_0 : decode cX2_fixShip 0 = .ok (.aload_n 0, 1) := by decide +kernel
theorem dX2_fixShip_1 : decode cX2_fixShip 1 = .ok (.iload_n 1, 1) := by decide +kernel
theorem dX2_fixShip_2 : decode cX2_fixShip 2 = .ok (.invokevirtual 113, 3) := by decide +kernel
theorem dX2_fixShip_5 : decode cX2_fixShip 5 = .ok (.ifCond .eq 11, 3) := by decide +kernel
theorem dX2_fixShip_8 : decode cX2_fixShip 8 = .ok (.aload_n 0, 1) := by decide +kernel
theorem dX2_fixShip_9 : decode cX2_fixShip 9 = .ok (.iload_n 2, 1) := by decide +kernel
theorem dX2_fixShip_10 : decode cX2_fixShip 10 = .ok (.invokevirtual 116, 3) := by decide +kernel
theorem dX2_fixShip_13 : decode cX2_fixShip 13 = .ok (.ifCond .ne 6, 3) := by decide +kernel
theorem dX2_fixShip_16 : decode cX2_fixShip 16 = .ok (.ldc 73, 2) := by decide +kernel
theorem dX2_fixShip_18 : decode cX2_fixShip 18 = .ok (.ireturn, 1) := by decide +kernel
theorem dX2_fixShip_19 : decode cX2_fixShip 19 = .ok (.aload_n 0, 1) := by decide +kernel
theorem dX2_fixShip_20 : decode cX2_fixShip 20 = .ok (.getfield 20, 3) := by decide +kernel
theorem dX2_fixShip_23 : decode cX2_fixShip 23 = .ok (.iload_n 1, 1) := by decide +kernel
theorem dX2_fixShip_24 : decode cX2_fixShip 24 = .ok (.aaload, 1) := by decide +kernel
theorem dX2_fixShip_25 : decode cX2_fixShip 25 = .ok (.astore_n 3, 1) := by decide +kernel
theorem dX2_fixShip_26 : decode cX2_fixShip 26 = .ok (.aload_n 0, 1) := by decide +kernel
theorem dX2_fixShip_27 : decode cX2_fixShip 27 = .ok (.getfield 26, 3) := by decide +kernel
theorem dX2_fixShip_30 : decode cX2_fixShip 30 = .ok (.iload_n 2, 1) := by decide +kernel
theorem dX2_fixShip_31 : decode cX2_fixShip 31 = .ok (.aaload, 1) := by decide +kernel
theorem dX2_fixShip_32 : decode cX2_fixShip 32 = .ok (.astore 4, 2) := by decide +kernel
theorem dX2_fixShip_34 : decode cX2_fixShip 34 = .ok (.aload 4, 2) := by decide +kernel
theorem dX2_fixShip_36 : decode cX2_fixShip 36 = .ok (.getfield 119, 3) := by decide +kernel
theorem dX2_fixShip_39 : decode cX2_fixShip 39 = .ok (.ifCond .ne 21, 3) := by decide +kernel
theorem dX2_fixShip_42 : decode cX2_fixShip 42 = .ok (.aload_n 0, 1) := by decide +kernel
theorem dX2_fixShip_43 : decode cX2_fixShip 43 = .ok (.iload_n 1, 1) := by decide +kernel
theorem dX2_fixShip_44 : decode cX2_fixShip 44 = .ok (.iload_n 2, 1) := by decide +kernel
theorem dX2_fixShip_45 : decode cX2_fixShip 45 = .ok (.invokevirtual 122, 3) := by decide +kernel
theorem dX2_fixShip_48 : decode cX2_fixShip 48 = .ok (.ifCond .ne 12, 3) := by decide +kernel
theorem dX2_fixShip_51 : decode cX2_fixShip 51 = .ok (.aload_n 3, 1) := by decide +kernel
theorem dX2_fixShip_52 : decode cX2_fixShip 52 = .ok (.getfield 126, 3) := by decide +kernel
theorem dX2_fixShip_55 : decode cX2_fixShip 55 = .ok (.bipush 10, 2) := by decide +kernel
theorem dX2_fixShip_57 : decode cX2_fixShip 57 = .ok (.if_icmp .lt 6, 3) := by decide +kernel
theorem dX2_fixShip_60 : decode cX2_fixShip 60 = .ok (.ldc 78, 2) := by decide +kernel
theorem dX2_fixShip_62 : decode cX2_fixShip 62 = .ok (.ireturn, 1) := by decide +kernel
theorem dX2_fixShip_63 : decode cX2_fixShip 63 = .ok (.aload_n 3, 1) := by decide +kernel
theorem dX2_fixShip_64 : decode cX2_fixShip 64 = .ok (.getfield 129, 3) := by decide +kernel
theorem dX2_fixShip_67 : decode cX2_fixShip 67 = .ok (.aload_n 3, 1) := by decide +kernel
theorem dX2_fixShip_68 : decode cX2_fixShip 68 = .ok (.getfield 126, 3) := by decide +kernel
theorem dX2_fixShip_71 : decode cX2_fixShip 71 = .ok (.iload_n 2, 1) := by decide +kernel
theorem dX2_fixShip_72 : decode cX2_fixShip 72 = .ok (.iastore, 1) := by decide +kernel
theorem dX2_fixShip_73 : decode cX2_fixShip 73 = .ok (.aload_n 3, 1) := by decide +kernel
theorem dX2_fixShip_74 : decode cX2_fixShip 74 = .ok (.dup, 1) := by decide +kernel
theorem dX2_fixShip_75 : decode cX2_fixShip 75 = .ok (.getfield 126, 3) := by decide +kernel
theorem dX2_fixShip_78 : decode cX2_fixShip 78 = .ok (.iconst 1, 1) := by decide +kernel
theorem dX2_fixShip_79 : decode cX2_fixShip 79 = .ok (.iadd, 1) := by decide +kernel
theorem dX2_fixShip_80 : decode cX2_fixShip 80 = .ok (.putfield 126, 3) := by decide +kernel
theorem dX2_fixShip_83 : decode cX2_fixShip 83 = .ok (.aload 4, 2) := by decide +kernel
theorem dX2_fixShip_85 : decode cX2_fixShip 85 = .ok (.iconst 1, 1) := by decide +kernel
theorem dX2_fixShip_86 : decode cX2_fixShip 86 = .ok (.putfield 119, 3) := by decide +kernel
theorem dX2_fixShip_89 : decode cX2_fixShip 89 = .ok (.aload 4, 2) := by decide +kernel
theorem dX2_fixShip_91 : decode cX2_fixShip 91 = .ok (.iload_n 1, 1) := by decide +kernel
theorem dX2_fixShip_92 : decode cX2_fixShip 92 = .ok (.putfield 132, 3) := by decide +kernel
theorem dX2_fixShip_95 : decode cX2_fixShip 95 = .ok (.aload_n 0, 1) := by decide +kernel
theorem dX2_fixShip_96 : decode cX2_fixShip 96 = .ok (.getfield 33, 3) := by decide +kernel
theorem dX2_fixShip_99 : decode cX2_fixShip 99 = .ok (.getfield 135, 3) := by decide +kernel
theorem dX2_fixShip_102 : decode cX2_fixShip 102 = .ok (.ireturn, 1) := by decide +kernel
theorem dX2_delayShip_0 : decode cX2_delayShip 0 = .ok (.aload_n 0, 1) := by decide +kernel
theorem dX2_delayShip_1 : decode cX2_delayShip 1 = .ok (.iload_n 1, 1) := by decide +kernel
theorem dX2_delayShip_2 : decode cX2_delayShip 2 = .ok (.invokevirtual 113, 3) := by decide +kernel
theorem dX2_delayShip_5 : decode cX2_delayShip 5 = .ok (.ifCond .eq 13, 3) := by decide +kernel
theorem dX2_delayShip_8 : decode cX2_delayShip 8 = .ok (.iload_n 2, 1) := by decide +kernel
theorem dX2_delayShip_9 : decode cX2_delayShip 9 = .ok (.iconst 1, 1) := by decide +kernel
theorem dX2_delayShip_10 : decode cX2_delayShip 10 = .ok (.bipush 99, 2) := by decide +kernel
theorem dX2_delayShip_12 : decode cX2_delayShip 12 = .ok (.invokestatic 69, 3) := by decide +kernel
theorem dX2_delayShip_15 : decode cX2_delayShip 15 = .ok (.ifCond .ne 6, 3) := by decide +kernel
theorem dX2_delayShip_18 : decode cX2_delayShip 18 = .ok (.ldc 73, 2) := by decide +kernel
theorem dX2_delayShip_20 : decode cX2_delayShip 20 = .ok (.ireturn, 1) := by decide +kernel
theorem dX2_delayShip_21 : decode cX2_delayShip 21 = .ok (.aload_n 0, 1) := by decide +kernel
theorem dX2_delayShip_22 : decode cX2_delayShip 22 = .ok (.getfield 20, 3) := by decide +kernel
theorem dX2_delayShip_25 : decode cX2_delayShip 25 = .ok (.iload_n 1, 1) := by decide +kernel
theorem dX2_delayShip_26 : decode cX2_delayShip 26 = .ok (.aaload, 1) := by decide +kernel
theorem dX2_delayShip_27 : decode cX2_delayShip 27 = .ok (.astore_n 3, 1) := by decide +kernel
theorem dX2_delayShip_28 : decode cX2_delayShip 28 = .ok (.aload_n 3, 1) := by decide +kernel
theorem dX2_delayShip_29 : decode cX2_delayShip 29 = .ok (.getfield 92, 3) := by decide +kernel
theorem dX2_delayShip_32 : decode cX2_delayShip 32 = .ok (.iload_n 2, 1) := by decide +kernel
theorem dX2_delayShip_33 : decode cX2_delayShip 33 = .ok (.iadd, 1) := by decide +kernel
theorem dX2_delayShip_34 : decode cX2_delayShip 34 = .ok (.sipush 1999, 3) := by decide +kernel
theorem dX2_delayShip_37 : decode cX2_delayShip 37 = .ok (.if_icmp .le 6, 3) := by decide +kernel
theorem dX2_delayShip_40 : decode cX2_delayShip 40 = .ok (.ldc 79, 2) := by decide +kernel
theorem dX2_delayShip_42 : decode cX2_delayShip 42 = .ok (.ireturn, 1) := by decide +kernel
theorem dX2_delayShip_43 : decode cX2_delayShip 43 = .ok (.aload_n 3, 1) := by decide +kernel
theorem dX2_delayShip_44 : decode cX2_delayShip 44 = .ok (.dup, 1) := by decide +kernel
theorem dX2_delayShip_45 : decode cX2_delayShip 45 = .ok (.getfield 92, 3) := by decide +kernel
theorem dX2_delayShip_48 : decode cX2_delayShip 48 = .ok (.iload_n 2, 1) := by decide +kernel
theorem dX2_delayShip_49 : decode cX2_delayShip 49 = .ok (.iadd, 1) := by decide +kernel
theorem dX2_delayShip_50 : decode cX2_delayShip 50 = .ok (.putfield 92, 3) := by decide +kernel
theorem dX2_delayShip_53 : decode cX2_delayShip 53 = .ok (.aload_n 3, 1) := by decide +kernel
theorem dX2_delayShip_54 : decode cX2_delayShip 54 = .ok (.getfield 126, 3) := by decide +kernel
theorem dX2_delayShip_57 : decode cX2_delayShip 57 = .ok (.istore 4, 2) := by decide +kernel
theorem dX2_delayShip_59 : decode cX2_delayShip 59 = .ok (.aload_n 0, 1) := by decide +kernel
theorem dX2_delayShip_60 : decode cX2_delayShip 60 = .ok (.aload_n 3, 1) := by decide +kernel
theorem dX2_delayShip_61 : decode cX2_delayShip 61 = .ok (.aload_n 0, 1) := by decide +kernel
theorem dX2_delayShip_62 : decode cX2_delayShip 62 = .ok (.iload_n 1, 1) := by decide +kernel
theorem dX2_delayShip_63 : decode cX2_delayShip 63 = .ok (.invokevirtual 138, 3) := by decide +kernel
theorem dX2_delayShip_66 : decode cX2_delayShip 66 = .ok (.iconst 2, 1) := by decide +kernel
theorem dX2_delayShip_67 : decode cX2_delayShip 67 = .ok (.invokevirtual 141, 3) := by decide +kernel
theorem dX2_delayShip_70 : decode cX2_delayShip 70 = .ok (.iload 4, 2) := by decide +kernel
theorem dX2_delayShip_72 : decode cX2_delayShip 72 = .ok (.aload_n 3, 1) := by decide +kernel
theorem dX2_delayShip_73 : decode cX2_delayShip 73 = .ok (.getfield 126, 3) := by decide +kernel
theorem dX2_delayShip_76 : decode cX2_delayShip 76 = .ok (.isub, 1) := by decide +kernel
theorem dX2_delayShip_77 : decode cX2_delayShip 77 = .ok (.istore 5, 2) := by decide +kernel
theorem dX2_delayShip_79 : decode cX2_delayShip 79 = .ok (.aload_n 0, 1) := by decide +kernel
theorem dX2_delayShip_80 : decode cX2_delayShip 80 = .ok (.dup, 1) := by decide +kernel
theorem dX2_delayShip_81 : decode cX2_delayShip 81 = .ok (.getfield 59, 3) := by decide +kernel
theorem dX2_delayShip_84 : decode cX2_delayShip 84 = .ok (.iload 5, 2) := by decide +kernel
theorem dX2_delayShip_86 : decode cX2_delayShip 86 = .ok (.iadd, 1) := by decide +kernel
theorem dX2_delayShip_87 : decode cX2_delayShip 87 = .ok (.putfield 59, 3) := by decide +kernel
theorem dX2_delayShip_90 : decode cX2_delayShip 90 = .ok (.iload 5, 2) := by decide +kernel
theorem dX2_delayShip_92 : decode cX2_delayShip 92 = .ok (.ireturn, 1) := by decide +kernel
theorem dX2_callOffLast_0 : decode cX2_callOffLast 0 = .ok (.aload_n 0, 1) := by decide +kernel
theorem dX2_callOffLast_1 : decode cX2_callOffLast 1 = .ok (.iload_n 1, 1) := by decide +kernel
theorem dX2_callOffLast_2 : decode cX2_callOffLast 2 = .ok (.invokevirtual 113, 3) := by decide +kernel
theorem dX2_callOffLast_5 : decode cX2_callOffLast 5 = .ok (.ifCond .ne 6, 3) := by decide +kernel
theorem dX2_callOffLast_8 : decode cX2_callOffLast 8 = .ok (.ldc 73, 2) := by decide +kernel
theorem dX2_callOffLast_10 : decode cX2_callOffLast 10 = .ok (.ireturn, 1) := by decide +kernel
theorem dX2_callOffLast_11 : decode cX2_callOffLast 11 = .ok (.aload_n 0, 1) := by decide +kernel
theorem dX2_callOffLast_12 : decode cX2_callOffLast 12 = .ok (.getfield 20, 3) := by decide +kernel
theorem dX2_callOffLast_15 : decode cX2_callOffLast 15 = .ok (.iload_n 1, 1) := by decide +kernel
theorem dX2_callOffLast_16 : decode cX2_callOffLast 16 = .ok (.aaload, 1) := by decide +kernel
theorem dX2_callOffLast_17 : decode cX2_callOffLast 17 = .ok (.astore_n 2, 1) := by decide +kernel
theorem dX2_callOffLast_18 : decode cX2_callOffLast 18 = .ok (.aload_n 2, 1) := by decide +kernel
theorem dX2_callOffLast_19 : decode cX2_callOffLast 19 = .ok (.getfield 126, 3) := by decide +kernel
theorem dX2_callOffLast_22 : decode cX2_callOffLast 22 = .ok (.iconst 1, 1) := by decide +kernel
theorem dX2_callOffLast_23 : decode cX2_callOffLast 23 = .ok (.isub, 1) := by decide +kernel
theorem dX2_callOffLast_24 : decode cX2_callOffLast 24 = .ok (.istore_n 3, 1) := by decide +kernel
theorem dX2_callOffLast_25 : decode cX2_callOffLast 25 = .ok (.iload_n 3, 1) := by decide +kernel
theorem dX2_callOffLast_26 : decode cX2_callOffLast 26 = .ok (.ifCond .lt 16, 3) := by decide +kernel
theorem dX2_callOffLast_29 : decode cX2_callOffLast 29 = .ok (.aload_n 0, 1) := by decide +kernel
theorem dX2_callOffLast_30 : decode cX2_callOffLast 30 = .ok (.aload_n 2, 1) := by decide +kernel
theorem dX2_callOffLast_31 : decode cX2_callOffLast 31 = .ok (.getfield 129, 3) := by decide +kernel
theorem dX2_callOffLast_34 : decode cX2_callOffLast 34 = .ok (.iload_n 3, 1) := by decide +kernel
theorem dX2_callOffLast_35 : decode cX2_callOffLast 35 = .ok (.iaload, 1) := by decide +kernel
theorem dX2_callOffLast_36 : decode cX2_callOffLast 36 = .ok (.invokevirtual 116, 3) := by decide +kernel
theorem dX2_callOffLast_39 : decode cX2_callOffLast 39 = .ok (.ifCond .ne 6, 3) := by decide +kernel
theorem dX2_callOffLast_42 : decode cX2_callOffLast 42 = .ok (.ldc 78, 2) := by decide +kernel
theorem dX2_callOffLast_44 : decode cX2_callOffLast 44 = .ok (.ireturn, 1) := by decide +kernel
theorem dX2_callOffLast_45 : decode cX2_callOffLast 45 = .ok (.aload_n 0, 1) := by decide +kernel
theorem dX2_callOffLast_46 : decode cX2_callOffLast 46 = .ok (.getfield 26, 3) := by decide +kernel
theorem dX2_callOffLast_49 : decode cX2_callOffLast 49 = .ok (.aload_n 2, 1) := by decide +kernel
theorem dX2_callOffLast_50 : decode cX2_callOffLast 50 = .ok (.getfield 129, 3) := by decide +kernel
theorem dX2_callOffLast_53 : decode cX2_callOffLast 53 = .ok (.iload_n 3, 1) := by decide +kernel
theorem dX2_callOffLast_54 : decode cX2_callOffLast 54 = .ok (.iaload, 1) := by decide +kernel
theorem dX2_callOffLast_55 : decode cX2_callOffLast 55 = .ok (.aaload, 1) := by decide +kernel
theorem dX2_callOffLast_56 : decode cX2_callOffLast 56 = .ok (.invokevirtual 145, 3) := by decide +kernel
theorem dX2_callOffLast_59 : decode cX2_callOffLast 59 = .ok (.bipush 10, 2) := by decide +kernel
theorem dX2_callOffLast_61 : decode cX2_callOffLast 61 = .ok (.invokestatic 149, 3) := by decide +kernel
theorem dX2_callOffLast_64 : decode cX2_callOffLast 64 = .ok (.istore 4, 2) := by decide +kernel
theorem dX2_callOffLast_66 : decode cX2_callOffLast 66 = .ok (.aload_n 0, 1) := by decide +kernel
theorem dX2_callOffLast_67 : decode cX2_callOffLast 67 = .ok (.aload_n 2, 1) := by decide +kernel
theorem dX2_callOffLast_68 : decode cX2_callOffLast 68 = .ok (.iload_n 3, 1) := by decide +kernel
theorem dX2_callOffLast_69 : decode cX2_callOffLast 69 = .ok (.iconst 0, 1) := by decide +kernel
theorem dX2_callOffLast_70 : decode cX2_callOffLast 70 = .ok (.invokevirtual 141, 3) := by decide +kernel
theorem dX2_callOffLast_73 : decode cX2_callOffLast 73 = .ok (.aload_n 2, 1) := by decide +kernel
theorem dX2_callOffLast_74 : decode cX2_callOffLast 74 = .ok (.dup, 1) := by decide +kernel
theorem dX2_callOffLast_75 : decode cX2_callOffLast 75 = .ok (.getfield 152, 3) := by decide +kernel
theorem dX2_callOffLast_78 : decode cX2_callOffLast 78 = .ok (.iload 4, 2) := by decide +kernel
theorem dX2_callOffLast_80 : decode cX2_callOffLast 80 = .ok (.isub, 1) := by decide +kernel
theorem dX2_callOffLast_81 : decode cX2_callOffLast 81 = .ok (.putfield 152, 3) := by decide +kernel
theorem dX2_callOffLast_84 : decode cX2_callOffLast 84 = .ok (.aload_n 0, 1) := by decide +kernel
theorem dX2_callOffLast_85 : decode cX2_callOffLast 85 = .ok (.dup, 1) := by decide +kernel
theorem dX2_callOffLast_86 : decode cX2_callOffLast 86 = .ok (.getfield 62, 3) := by decide +kernel
theorem dX2_callOffLast_89 : decode cX2_callOffLast 89 = .ok (.iconst 1, 1) := by decide +kernel
theorem dX2_callOffLast_90 : decode cX2_callOffLast 90 = .ok (.iadd, 1) := by decide +kernel
theorem dX2_callOffLast_91 : decode cX2_callOffLast 91 = .ok (.putfield 62, 3) := by decide +kernel
theorem dX2_callOffLast_94 : decode cX2_callOffLast 94 = .ok (.iload 4, 2) := by decide +kernel
theorem dX2_callOffLast_96 : decode cX2_callOffLast 96 = .ok (.ireturn, 1) := by decide +kernel
theorem dX2_settleShip_0 : decode cX2_settleShip 0 = .ok (.aload_n 0, 1) := by decide +kernel
theorem dX2_settleShip_1 : decode cX2_settleShip 1 = .ok (.iload_n 1, 1) := by decide +kernel
theorem dX2_settleShip_2 : decode cX2_settleShip 2 = .ok (.invokevirtual 113, 3) := by decide +kernel
theorem dX2_settleShip_5 : decode cX2_settleShip 5 = .ok (.ifCond .ne 6, 3) := by decide +kernel
theorem dX2_settleShip_8 : decode cX2_settleShip 8 = .ok (.ldc 73, 2) := by decide +kernel
theorem dX2_settleShip_10 : decode cX2_settleShip 10 = .ok (.ireturn, 1) := by decide +kernel
theorem dX2_settleShip_11 : decode cX2_settleShip 11 = .ok (.aload_n 0, 1) := by decide +kernel
theorem dX2_settleShip_12 : decode cX2_settleShip 12 = .ok (.getfield 20, 3) := by decide +kernel
theorem dX2_settleShip_15 : decode cX2_settleShip 15 = .ok (.iload_n 1, 1) := by decide +kernel
theorem dX2_settleShip_16 : decode cX2_settleShip 16 = .ok (.aaload, 1) := by decide +kernel
theorem dX2_settleShip_17 : decode cX2_settleShip 17 = .ok (.astore_n 2, 1) := by decide +kernel
theorem dX2_settleShip_18 : decode cX2_settleShip 18 = .ok (.aload_n 2, 1) := by decide +kernel
theorem dX2_settleShip_19 : decode cX2_settleShip 19 = .ok (.getfield 126, 3) := by decide +kernel
theorem dX2_settleShip_22 : decode cX2_settleShip 22 = .ok (.ifCond .ne 6, 3) := by decide +kernel
theorem dX2_settleShip_25 : decode cX2_settleShip 25 = .ok (.ldc 78, 2) := by decide +kernel
theorem dX2_settleShip_27 : decode cX2_settleShip 27 = .ok (.ireturn, 1) := by decide +kernel
theorem dX2_settleShip_28 : decode cX2_settleShip 28 = .ok (.aload_n 0, 1) := by decide +kernel
theorem dX2_settleShip_29 : decode cX2_settleShip 29 = .ok (.iload_n 1, 1) := by decide +kernel
theorem dX2_settleShip_30 : decode cX2_settleShip 30 = .ok (.invokevirtual 155, 3) := by decide +kernel
theorem dX2_settleShip_33 : decode cX2_settleShip 33 = .ok (.pop, 1) := by decide +kernel
theorem dX2_settleShip_34 : decode cX2_settleShip 34 = .ok (.aload_n 2, 1) := by decide +kernel
theorem dX2_settleShip_35 : decode cX2_settleShip 35 = .ok (.dup, 1) := by decide +kernel
theorem dX2_settleShip_36 : decode cX2_settleShip 36 = .ok (.getfield 152, 3) := by decide +kernel
theorem dX2_settleShip_39 : decode cX2_settleShip 39 = .ok (.aload_n 0, 1) := by decide +kernel
theorem dX2_settleShip_40 : decode cX2_settleShip 40 = .ok (.getfield 33, 3) := by decide +kernel
theorem dX2_settleShip_43 : decode cX2_settleShip 43 = .ok (.getfield 159, 3) := by decide +kernel
theorem dX2_settleShip_46 : decode cX2_settleShip 46 = .ok (.iadd, 1) := by decide +kernel
theorem dX2_settleShip_47 : decode cX2_settleShip 47 = .ok (.putfield 152, 3) := by decide +kernel
theorem dX2_settleShip_50 : decode cX2_settleShip 50 = .ok (.aload_n 2, 1) := by decide +kernel
theorem dX2_settleShip_51 : decode cX2_settleShip 51 = .ok (.aload_n 0, 1) := by decide +kernel
theorem dX2_settleShip_52 : decode cX2_settleShip 52 = .ok (.getfield 33, 3) := by decide +kernel
theorem dX2_settleShip_55 : decode cX2_settleShip 55 = .ok (.getfield 162, 3) := by decide +kernel
theorem dX2_settleShip_58 : decode cX2_settleShip 58 = .ok (.putfield 89, 3) := by decide +kernel
theorem dX2_settleShip_61 : decode cX2_settleShip 61 = .ok (.aload_n 2, 1) := by decide +kernel
theorem dX2_settleShip_62 : decode cX2_settleShip 62 = .ok (.aload_n 0, 1) := by decide +kernel
theorem dX2_settleShip_63 : decode cX2_settleShip 63 = .ok (.getfield 33, 3) := by decide +kernel
theorem dX2_settleShip_66 : decode cX2_settleShip 66 = .ok (.getfield 135, 3) := by decide +kernel
theorem dX2_settleShip_69 : decode cX2_settleShip 69 = .ok (.putfield 92, 3) := by decide +kernel
theorem dX2_settleShip_72 : decode cX2_settleShip 72 = .ok (.aload_n 0, 1) := by decide +kernel
theorem dX2_settleShip_73 : decode cX2_settleShip 73 = .ok (.aload_n 2, 1) := by decide +kernel
theorem dX2_settleShip_74 : decode cX2_settleShip 74 = .ok (.iconst 0, 1) := by decide +kernel
theorem dX2_settleShip_75 : decode cX2_settleShip 75 = .ok (.iconst 2, 1) := by decide +kernel
theorem dX2_settleShip_76 : decode cX2_settleShip 76 = .ok (.invokevirtual 141, 3) := by decide +kernel
theorem dX2_settleShip_79 : decode cX2_settleShip 79 = .ok (.aload_n 0, 1) := by decide +kernel
theorem dX2_settleShip_80 : decode cX2_settleShip 80 = .ok (.getfield 33, 3) := by decide +kernel
theorem dX2_settleShip_83 : decode cX2_settleShip 83 = .ok (.getfield 159, 3) := by decide +kernel
theorem dX2_settleShip_86 : decode cX2_settleShip 86 = .ok (.ldc 165, 2) := by decide +kernel
theorem dX2_settleShip_88 : decode cX2_settleShip 88 = .ok (.iadd, 1) := by decide +kernel
theorem dX2_settleShip_89 : decode cX2_settleShip 89 = .ok (.ireturn, 1) := by decide +kernel
theorem dX2_dropFixtures_0 : decode cX2_dropFixtures 0 = .ok (.iload_n 2, 1) := by decide +kernel
theorem dX2_dropFixtures_1 : decode cX2_dropFixtures 1 = .ok (.istore 4, 2) := by decide +kernel
theorem dX2_dropFixtures_3 : decode cX2_dropFixtures 3 = .ok (.iload 4, 2) := by decide +kernel
theorem dX2_dropFixtures_5 : decode cX2_dropFixtures 5 = .ok (.aload_n 1, 1) := by decide +kernel
theorem dX2_dropFixtures_6 : decode cX2_dropFixtures 6 = .ok (.getfield 126, 3) := by decide +kernel
theorem dX2_dropFixtures_9 : decode cX2_dropFixtures 9 = .ok (.if_icmp .ge 39, 3) := by decide +kernel
theorem dX2_dropFixtures_12 : decode cX2_dropFixtures 12 = .ok (.aload_n 0, 1) := by decide +kernel
theorem dX2_dropFixtures_13 : decode cX2_dropFixtures 13 = .ok (.aload_n 1, 1) := by decide +kernel
theorem dX2_dropFixtures_14 : decode cX2_dropFixtures 14 = .ok (.getfield 129, 3) := by decide +kernel
theorem dX2_dropFixtures_17 : decode cX2_dropFixtures 17 = .ok (.iload 4, 2) := by decide +kernel
theorem dX2_dropFixtures_19 : decode cX2_dropFixtures 19 = .ok (.iaload, 1) := by decide +kernel
theorem dX2_dropFixtures_20 : decode cX2_dropFixtures 20 = .ok (.invokevirtual 116, 3) := by decide +kernel
theorem dX2_dropFixtures_23 : decode cX2_dropFixtures 23 = .ok (.ifCond .eq 19, 3) := by decide +kernel
theorem dX2_dropFixtures_26 : decode cX2_dropFixtures 26 = .ok (.aload_n 0, 1) := by decide +kernel
theorem dX2_dropFixtures_27 : decode cX2_dropFixtures 27 = .ok (.getfield 26, 3) := by decide +kernel
theorem dX2_dropFixtures_30 : decode cX2_dropFixtures 30 = .ok (.aload_n 1, 1) := by decide +kernel
theorem dX2_dropFixtures_31 : decode cX2_dropFixtures 31 = .ok (.getfield 129, 3) := by decide +kernel
theorem dX2_dropFixtures_34 : decode cX2_dropFixtures 34 = .ok (.iload 4, 2) := by decide +kernel
theorem dX2_dropFixtures_36 : decode cX2_dropFixtures 36 = .ok (.iaload, 1) := by decide +kernel
theorem dX2_dropFixtures_37 : decode cX2_dropFixtures 37 = .ok (.aaload, 1) := by decide +kernel
theorem dX2_dropFixtures_38 : decode cX2_dropFixtures 38 = .ok (.iload_n 3, 1) := by decide +kernel
theorem dX2_dropFixtures_39 : decode cX2_dropFixtures 39 = .ok (.putfield 119, 3) := by decide +kernel
theorem dX2_dropFixtures_42 : decode cX2_dropFixtures 42 = .ok (.iinc 4 1, 3) := by decide +kernel
theorem dX2_dropFixtures_45 : decode cX2_dropFixtures 45 = .ok (.goto (-42), 3) := by decide +kernel
theorem dX2_dropFixtures_48 : decode cX2_dropFixtures 48 = .ok (.aload_n 1, 1) := by decide +kernel
theorem dX2_dropFixtures_49 : decode cX2_dropFixtures 49 = .ok (.iload_n 2, 1) := by decide +kernel
theorem dX2_dropFixtures_50 : decode cX2_dropFixtures 50 = .ok (.putfield 126, 3) := by decide +kernel
theorem dX2_dropFixtures_53 : decode cX2_dropFixtures 53 = .ok (.return_, 1) := by decide +kernel
theorem dX2_between_0 : decode cX2_between 0 = .ok (.aload_n 0, 1) := by decide +kernel
theorem dX2_between_1 : decode cX2_between 1 = .ok (.getfield 9, 3) := by decide +kernel
theorem dX2_between_4 : decode cX2_between 4 = .ok (.iload_n 1, 1) := by decide +kernel
theorem dX2_between_5 : decode cX2_between 5 = .ok (.iaload, 1) := by decide +kernel
theorem dX2_between_6 : decode cX2_between 6 = .ok (.aload_n 0, 1) := by decide +kernel
theorem dX2_between_7 : decode cX2_between 7 = .ok (.getfield 9, 3) := by decide +kernel
theorem dX2_between_10 : decode cX2_between 10 = .ok (.iload_n 2, 1) := by decide +kernel
theorem dX2_between_11 : decode cX2_between 11 = .ok (.iaload, 1) := by decide +kernel
theorem dX2_between_12 : decode cX2_between 12 = .ok (.isub, 1) := by decide +kernel
theorem dX2_between_13 : decode cX2_between 13 = .ok (.istore_n 3, 1) := by decide +kernel
theorem dX2_between_14 : decode cX2_between 14 = .ok (.aload_n 0, 1) := by decide +kernel
theorem dX2_between_15 : decode cX2_between 15 = .ok (.getfield 15, 3) := by decide +kernel
theorem dX2_between_18 : decode cX2_between 18 = .ok (.iload_n 1, 1) := by decide +kernel
theorem dX2_between_19 : decode cX2_between 19 = .ok (.iaload, 1) := by decide +kernel
theorem dX2_between_20 : decode cX2_between 20 = .ok (.aload_n 0, 1) := by decide +kernel
theorem dX2_between_21 : decode cX2_between 21 = .ok (.getfield 15, 3) := by decide +kernel
theorem dX2_between_24 : decode cX2_between 24 = .ok (.iload_n 2, 1) := by decide +kernel
theorem dX2_between_25 : decode cX2_between 25 = .ok (.iaload, 1) := by decide +kernel
theorem dX2_between_26 : decode cX2_between 26 = .ok (.isub, 1) := by decide +kernel
theorem dX2_between_27 : decode cX2_between 27 = .ok (.istore 4, 2) := by decide +kernel
theorem dX2_between_29 : decode cX2_between 29 = .ok (.bipush 10, 2) := by decide +kernel
theorem dX2_between_31 : decode cX2_between 31 = .ok (.iload_n 3, 1) := by decide +kernel
theorem dX2_between_32 : decode cX2_between 32 = .ok (.ifCond .ge 8, 3) := by decide +kernel
theorem dX2_between_35 : decode cX2_between 35 = .ok (.iload_n 3, 1) := by decide +kernel
theorem dX2_between_36 : decode cX2_between 36 = .ok (.ineg, 1) := by decide +kernel
theorem dX2_between_37 : decode cX2_between 37 = .ok (.goto 4, 3) := by decide +kernel
theorem dX2_between_40 : decode cX2_between 40 = .ok (.iload_n 3, 1) := by decide +kernel
theorem dX2_between_41 : decode cX2_between 41 = .ok (.iload 4, 2) := by decide +kernel
theorem dX2_between_43 : decode cX2_between 43 = .ok (.ifCond .ge 9, 3) := by decide +kernel
theorem dX2_between_46 : decode cX2_between 46 = .ok (.iload 4, 2) := by decide +kernel
theorem dX2_between_48 : decode cX2_between 48 = .ok (.ineg, 1) := by decide +kernel
theorem dX2_between_49 : decode cX2_between 49 = .ok (.goto 5, 3) := by decide +kernel
theorem dX2_between_52 : decode cX2_between 52 = .ok (.iload 4, 2) := by decide +kernel
theorem dX2_between_54 : decode cX2_between 54 = .ok (.iadd, 1) := by decide +kernel
theorem dX2_between_55 : decode cX2_between 55 = .ok (.imul, 1) := by decide +kernel
theorem dX2_between_56 : decode cX2_between 56 = .ok (.ireturn, 1) := by decide +kernel
theorem dX2_follow_0 : decode cX2_follow 0 = .ok (.aload_n 0, 1) := by decide +kernel
theorem dX2_follow_1 : decode cX2_follow 1 = .ok (.getfield 20, 3) := by decide +kernel
theorem dX2_follow_4 : decode cX2_follow 4 = .ok (.iload_n 1, 1) := by decide +kernel
theorem dX2_follow_5 : decode cX2_follow 5 = .ok (.aaload, 1) := by decide +kernel
theorem dX2_follow_6 : decode cX2_follow 6 = .ok (.astore_n 3, 1) := by decide +kernel
theorem dX2_follow_7 : decode cX2_follow 7 = .ok (.aload_n 0, 1) := by decide +kernel
theorem dX2_follow_8 : decode cX2_follow 8 = .ok (.getfield 33, 3) := by decide +kernel
theorem dX2_follow_11 : decode cX2_follow 11 = .ok (.aload_n 3, 1) := by decide +kernel
theorem dX2_follow_12 : decode cX2_follow 12 = .ok (.invokevirtual 166, 3) := by decide +kernel
theorem dX2_follow_15 : decode cX2_follow 15 = .ok (.iconst 0, 1) := by decide +kernel
theorem dX2_follow_16 : decode cX2_follow 16 = .ok (.istore 4, 2) := by decide +kernel
theorem dX2_follow_18 : decode cX2_follow 18 = .ok (.iload 4, 2) := by decide +kernel
theorem dX2_follow_20 : decode cX2_follow 20 = .ok (.iload_n 2, 1) := by decide +kernel
theorem dX2_follow_21 : decode cX2_follow 21 = .ok (.if_icmp .ge 30, 3) := by decide +kernel
theorem dX2_follow_24 : decode cX2_follow 24 = .ok (.iload 4, 2) := by decide +kernel
theorem dX2_follow_26 : decode cX2_follow 26 = .ok (.aload_n 3, 1) := by decide +kernel
theorem dX2_follow_27 : decode cX2_follow 27 = .ok (.getfield 126, 3) := by decide +kernel
theorem dX2_follow_30 : decode cX2_follow 30 = .ok (.if_icmp .ge 21, 3) := by decide +kernel
theorem dX2_follow_33 : decode cX2_follow 33 = .ok (.aload_n 0, 1) := by decide +kernel
theorem dX2_follow_34 : decode cX2_follow 34 = .ok (.aload_n 3, 1) := by decide +kernel
theorem dX2_follow_35 : decode cX2_follow 35 = .ok (.aload_n 3, 1) := by decide +kernel
theorem dX2_follow_36 : decode cX2_follow 36 = .ok (.getfield 129, 3) := by decide +kernel
theorem dX2_follow_39 : decode cX2_follow 39 = .ok (.iload 4, 2) := by decide +kernel
theorem dX2_follow_41 : decode cX2_follow 41 = .ok (.iaload, 1) := by decide +kernel
theorem dX2_follow_42 : decode cX2_follow 42 = .ok (.invokevirtual 169, 3) := by decide +kernel
theorem dX2_follow_45 : decode cX2_follow 45 = .ok (.iinc 4 1, 3) := by decide +kernel
theorem dX2_follow_48 : decode cX2_follow 48 = .ok (.goto (-30), 3) := by decide +kernel
theorem dX2_follow_51 : decode cX2_follow 51 = .ok (.aload_n 0, 1) := by decide +kernel
theorem dX2_follow_52 : decode cX2_follow 52 = .ok (.getfield 33, 3) := by decide +kernel
theorem dX2_follow_55 : decode cX2_follow 55 = .ok (.areturn, 1) := by decide +kernel
theorem dX2_followAll_0 : decode cX2_followAll 0 = .ok (.aload_n 0, 1) := by decide +kernel
theorem dX2_followAll_1 : decode cX2_followAll 1 = .ok (.iload_n 1, 1) := by decide +kernel
theorem dX2_followAll_2 : decode cX2_followAll 2 = .ok (.bipush 10, 2) := by decide +kernel
theorem dX2_followAll_4 : decode cX2_followAll 4 = .ok (.invokevirtual 173, 3) := by decide +kernel
theorem dX2_followAll_7 : decode cX2_followAll 7 = .ok (.areturn, 1) := by decide +kernel
theorem dX2_sail_0 : decode cX2_sail 0 = .ok (.aload_n 0, 1) := by decide +kernel
theorem dX2_sail_1 : decode cX2_sail 1 = .ok (.iload_n 2, 1) := by decide +kernel
theorem dX2_sail_2 : decode cX2_sail 2 = .ok (.invokevirtual 116, 3) := by decide +kernel
theorem dX2_sail_5 : decode cX2_sail 5 = .ok (.ifCond .ne 4, 3) := by decide +kernel
theorem dX2_sail_8 : decode cX2_sail 8 = .ok (.return_, 1) := by decide +kernel
theorem dX2_sail_9 : decode cX2_sail 9 = .ok (.aload_n 0, 1) := by decide +kernel
theorem dX2_sail_10 : decode cX2_sail 10 = .ok (.getfield 26, 3) := by decide +kernel
theorem dX2_sail_13 : decode cX2_sail 13 = .ok (.iload_n 2, 1) := by decide +kernel
theorem dX2_sail_14 : decode cX2_sail 14 = .ok (.aaload, 1) := by decide +kernel
theorem dX2_sail_15 : decode cX2_sail 15 = .ok (.astore_n 3, 1) := by decide +kernel
theorem dX2_sail_16 : decode cX2_sail 16 = .ok (.bipush 24, 2) := by decide +kernel
theorem dX2_sail_18 : decode cX2_sail 18 = .ok (.aload_n 1, 1) := by decide +kernel
theorem dX2_sail_19 : decode cX2_sail 19 = .ok (.getfield 83, 3) := by decide +kernel
theorem dX2_sail_22 : decode cX2_sail 22 = .ok (.imul, 1) := by decide +kernel
theorem dX2_sail_23 : decode cX2_sail 23 = .ok (.istore 4, 2) := by decide +kernel
theorem dX2_sail_25 : decode cX2_sail 25 = .ok (.aload_n 0, 1) := by decide +kernel
theorem dX2_sail_26 : decode cX2_sail 26 = .ok (.getfield 33, 3) := by decide +kernel
theorem dX2_sail_29 : decode cX2_sail 29 = .ok (.getfield 135, 3) := by decide +kernel
theorem dX2_sail_32 : decode cX2_sail 32 = .ok (.istore 5, 2) := by decide +kernel
theorem dX2_sail_34 : decode cX2_sail 34 = .ok (.aload_n 0, 1) := by decide +kernel
theorem dX2_sail_35 : decode cX2_sail 35 = .ok (.getfield 33, 3) := by decide +kernel
theorem dX2_sail_38 : decode cX2_sail 38 = .ok (.iload 5, 2) := by decide +kernel
theorem dX2_sail_40 : decode cX2_sail 40 = .ok (.aload_n 0, 1) := by decide +kernel
theorem dX2_sail_41 : decode cX2_sail 41 = .ok (.aload_n 0, 1) := by decide +kernel
theorem dX2_sail_42 : decode cX2_sail 42 = .ok (.getfield 33, 3) := by decide +kernel
theorem dX2_sail_45 : decode cX2_sail 45 = .ok (.getfield 162, 3) := by decide +kernel
theorem dX2_sail_48 : decode cX2_sail 48 = .ok (.aload_n 3, 1) := by decide +kernel
theorem dX2_sail_49 : decode cX2_sail 49 = .ok (.getfield 98, 3) := by decide +kernel
theorem dX2_sail_52 : decode cX2_sail 52 = .ok (.invokevirtual 177, 3) := by decide +kernel
theorem dX2_sail_55 : decode cX2_sail 55 = .ok (.iload 4, 2) := by decide +kernel
theorem dX2_sail_57 : decode cX2_sail 57 = .ok (.invokestatic 149, 3) := by decide +kernel
theorem dX2_sail_60 : decode cX2_sail 60 = .ok (.iadd, 1) := by decide +kernel
theorem dX2_sail_61 : decode cX2_sail 61 = .ok (.putfield 180, 3) := by decide +kernel
theorem dX2_sail_64 : decode cX2_sail 64 = .ok (.aload_n 0, 1) := by decide +kernel
theorem dX2_sail_65 : decode cX2_sail 65 = .ok (.getfield 33, 3) := by decide +kernel
theorem dX2_sail_68 : decode cX2_sail 68 = .ok (.aload_n 3, 1) := by decide +kernel
theorem dX2_sail_69 : decode cX2_sail 69 = .ok (.getfield 107, 3) := by decide +kernel
theorem dX2_sail_72 : decode cX2_sail 72 = .ok (.aload_n 0, 1) := by decide +kernel
theorem dX2_sail_73 : decode cX2_sail 73 = .ok (.getfield 33, 3) := by decide +kernel
theorem dX2_sail_76 : decode cX2_sail 76 = .ok (.getfield 180, 3) := by decide +kernel
theorem dX2_sail_79 : decode cX2_sail 79 = .ok (.isub, 1) := by decide +kernel
theorem dX2_sail_80 : decode cX2_sail 80 = .ok (.putfield 183, 3) := by decide +kernel
theorem dX2_sail_83 : decode cX2_sail 83 = .ok (.aload_n 0, 1) := by decide +kernel
theorem dX2_sail_84 : decode cX2_sail 84 = .ok (.getfield 33, 3) := by decide +kernel
theorem dX2_sail_87 : decode cX2_sail 87 = .ok (.aload_n 0, 1) := by decide +kernel
theorem dX2_sail_88 : decode cX2_sail 88 = .ok (.getfield 33, 3) := by decide +kernel
theorem dX2_sail_91 : decode cX2_sail 91 = .ok (.getfield 180, 3) := by decide +kernel
theorem dX2_sail_94 : decode cX2_sail 94 = .ok (.aload_n 3, 1) := by decide +kernel
theorem dX2_sail_95 : decode cX2_sail 95 = .ok (.getfield 104, 3) := by decide +kernel
theorem dX2_sail_98 : decode cX2_sail 98 = .ok (.invokestatic 186, 3) := by decide +kernel
theorem dX2_sail_101 : decode cX2_sail 101 = .ok (.putfield 191, 3) := by decide +kernel
theorem dX2_sail_104 : decode cX2_sail 104 = .ok (.aload_n 0, 1) := by decide +kernel
theorem dX2_sail_105 : decode cX2_sail 105 = .ok (.getfield 33, 3) := by decide +kernel
theorem dX2_sail_108 : decode cX2_sail 108 = .ok (.getfield 191, 3) := by decide +kernel
theorem dX2_sail_111 : decode cX2_sail 111 = .ok (.iconst 2, 1) := by decide +kernel
theorem dX2_sail_112 : decode cX2_sail 112 = .ok (.iadd, 1) := by decide +kernel
theorem dX2_sail_113 : decode cX2_sail 113 = .ok (.istore 6, 2) := by decide +kernel
theorem dX2_sail_115 : decode cX2_sail 115 = .ok (.aload_n 0, 1) := by decide +kernel
theorem dX2_sail_116 : decode cX2_sail 116 = .ok (.getfield 33, 3) := by decide +kernel
theorem dX2_sail_119 : decode cX2_sail 119 = .ok (.iload 6, 2) := by decide +kernel
theorem dX2_sail_121 : decode cX2_sail 121 = .ok (.aload_n 0, 1) := by decide +kernel
theorem dX2_sail_122 : decode cX2_sail 122 = .ok (.aload_n 3, 1) := by decide +kernel
theorem dX2_sail_123 : decode cX2_sail 123 = .ok (.getfield 98, 3) := by decide +kernel
theorem dX2_sail_126 : decode cX2_sail 126 = .ok (.aload_n 3, 1) := by decide +kernel
theorem dX2_sail_127 : decode cX2_sail 127 = .ok (.getfield 101, 3) := by decide +kernel
theorem dX2_sail_130 : decode cX2_sail 130 = .ok (.invokevirtual 177, 3) := by decide +kernel
theorem dX2_sail_133 : decode cX2_sail 133 = .ok (.iload 4, 2) := by decide +kernel
theorem dX2_sail_135 : decode cX2_sail 135 = .ok (.invokestatic 149, 3) := by decide +kernel
theorem dX2_sail_138 : decode cX2_sail 138 = .ok (.iadd, 1) := by decide +kernel
theorem dX2_sail_139 : decode cX2_sail 139 = .ok (.iconst 2, 1) := by decide +kernel
theorem dX2_sail_140 : decode cX2_sail 140 = .ok (.iadd, 1) := by decide +kernel
theorem dX2_sail_141 : decode cX2_sail 141 = .ok (.putfield 135, 3) := by decide +kernel
theorem dX2_sail_144 : decode cX2_sail 144 = .ok (.aload_n 0, 1) := by decide +kernel
theorem dX2_sail_145 : decode cX2_sail 145 = .ok (.getfield 33, 3) := by decide +kernel
theorem dX2_sail_148 : decode cX2_sail 148 = .ok (.aload_n 3, 1) := by decide +kernel
theorem dX2_sail_149 : decode cX2_sail 149 = .ok (.getfield 101, 3) := by decide +kernel
theorem dX2_sail_152 : decode cX2_sail 152 = .ok (.putfield 162, 3) := by decide +kernel
theorem dX2_sail_155 : decode cX2_sail 155 = .ok (.aload_n 0, 1) := by decide +kernel
theorem dX2_sail_156 : decode cX2_sail 156 = .ok (.getfield 33, 3) := by decide +kernel
theorem dX2_sail_159 : decode cX2_sail 159 = .ok (.aload_n 0, 1) := by decide +kernel
theorem dX2_sail_160 : decode cX2_sail 160 = .ok (.getfield 33, 3) := by decide +kernel
theorem dX2_sail_163 : decode cX2_sail 163 = .ok (.getfield 135, 3) := by decide +kernel
theorem dX2_sail_166 : decode cX2_sail 166 = .ok (.iload 5, 2) := by decide +kernel
theorem dX2_sail_168 : decode cX2_sail 168 = .ok (.isub, 1) := by decide +kernel
theorem dX2_sail_169 : decode cX2_sail 169 = .ok (.putfield 194, 3) := by decide +kernel
theorem dX2_sail_172 : decode cX2_sail 172 = .ok (.aload_n 0, 1) := by decide +kernel
theorem dX2_sail_173 : decode cX2_sail 173 = .ok (.getfield 33, 3) := by decide +kernel
theorem dX2_sail_176 : decode cX2_sail 176 = .ok (.aload_n 3, 1) := by decide +kernel
theorem dX2_sail_177 : decode cX2_sail 177 = .ok (.invokevirtual 145, 3) := by decide +kernel
theorem dX2_sail_180 : decode cX2_sail 180 = .ok (.aload_n 0, 1) := by decide +kernel
theorem dX2_sail_181 : decode cX2_sail 181 = .ok (.getfield 33, 3) := by decide +kernel
theorem dX2_sail_184 : decode cX2_sail 184 = .ok (.getfield 194, 3) := by decide +kernel
theorem dX2_sail_187 : decode cX2_sail 187 = .ok (.aload_n 1, 1) := by decide +kernel
theorem dX2_sail_188 : decode cX2_sail 188 = .ok (.getfield 86, 3) := by decide +kernel
theorem dX2_sail_191 : decode cX2_sail 191 = .ok (.imul, 1) := by decide +kernel
theorem dX2_sail_192 : decode cX2_sail 192 = .ok (.isub, 1) := by decide +kernel
theorem dX2_sail_193 : decode cX2_sail 193 = .ok (.putfield 197, 3) := by decide +kernel
theorem dX2_sail_196 : decode cX2_sail 196 = .ok (.aload_n 0, 1) := by decide +kernel
theorem dX2_sail_197 : decode cX2_sail 197 = .ok (.getfield 33, 3) := by decide +kernel
theorem dX2_sail_200 : decode cX2_sail 200 = .ok (.dup, 1) := by decide +kernel
theorem dX2_sail_201 : decode cX2_sail 201 = .ok (.getfield 159, 3) := by decide +kernel
theorem dX2_sail_204 : decode cX2_sail 204 = .ok (.aload_n 0, 1) := by decide +kernel
theorem dX2_sail_205 : decode cX2_sail 205 = .ok (.getfield 33, 3) := by decide +kernel
theorem dX2_sail_208 : decode cX2_sail 208 = .ok (.getfield 197, 3) := by decide +kernel
theorem dX2_sail_211 : decode cX2_sail 211 = .ok (.iadd, 1) := by decide +kernel
theorem dX2_sail_212 : decode cX2_sail 212 = .ok (.putfield 159, 3) := by decide +kernel
theorem dX2_sail_215 : decode cX2_sail 215 = .ok (.return_, 1) := by decide +kernel
theorem dX2_hindrance_0 : decode cX2_hindrance 0 = .ok (.aload_n 0, 1) := by decide +kernel
theorem dX2_hindrance_1 : decode cX2_hindrance 1 = .ok (.iload_n 1, 1) := by decide +kernel
theorem dX2_hindrance_2 : decode cX2_hindrance 2 = .ok (.bipush 10, 2) := by decide +kernel
theorem dX2_hindrance_4 : decode cX2_hindrance 4 = .ok (.invokevirtual 173, 3) := by decide +kernel
theorem dX2_hindrance_7 : decode cX2_hindrance 7 = .ok (.pop, 1) := by decide +kernel
theorem dX2_hindrance_8 : decode cX2_hindrance 8 = .ok (.aload_n 0, 1) := by decide +kernel
theorem dX2_hindrance_9 : decode cX2_hindrance 9 = .ok (.aload_n 0, 1) := by decide +kernel
theorem dX2_hindrance_10 : decode cX2_hindrance 10 = .ok (.getfield 20, 3) := by decide +kernel
theorem dX2_hindrance_13 : decode cX2_hindrance 13 = .ok (.iload_n 1, 1) := by decide +kernel
theorem dX2_hindrance_14 : decode cX2_hindrance 14 = .ok (.aaload, 1) := by decide +kernel
theorem dX2_hindrance_15 : decode cX2_hindrance 15 = .ok (.iload_n 2, 1) := by decide +kernel
theorem dX2_hindrance_16 : decode cX2_hindrance 16 = .ok (.invokevirtual 169, 3) := by decide +kernel
theorem dX2_hindrance_19 : decode cX2_hindrance 19 = .ok (.aload_n 0, 1) := by decide +kernel
theorem dX2_hindrance_20 : decode cX2_hindrance 20 = .ok (.getfield 26, 3) := by decide +kernel
theorem dX2_hindrance_23 : decode cX2_hindrance 23 = .ok (.iload_n 2, 1) := by decide +kernel
theorem dX2_hindrance_24 : decode cX2_hindrance 24 = .ok (.aaload, 1) := by decide +kernel
theorem dX2_hindrance_25 : decode cX2_hindrance 25 = .ok (.getfield 95, 3) := by decide +kernel
theorem dX2_hindrance_28 : decode cX2_hindrance 28 = .ok (.aload_n 0, 1) := by decide +kernel
theorem dX2_hindrance_29 : decode cX2_hindrance 29 = .ok (.getfield 20, 3) := by decide +kernel
theorem dX2_hindrance_32 : decode cX2_hindrance 32 = .ok (.iload_n 1, 1) := by decide +kernel
theorem dX2_hindrance_33 : decode cX2_hindrance 33 = .ok (.aaload, 1) := by decide +kernel
theorem dX2_hindrance_34 : decode cX2_hindrance 34 = .ok (.getfield 80, 3) := by decide +kernel
theorem dX2_hindrance_37 : decode cX2_hindrance 37 = .ok (.if_icmp .le 5, 3) := by decide +kernel
theorem dX2_hindrance_40 : decode cX2_hindrance 40 = .ok (.iconst 1, 1) := by decide +kernel
theorem dX2_hindrance_41 : decode cX2_hindrance 41 = .ok (.ireturn, 1) := by decide +kernel
theorem dX2_hindrance_42 : decode cX2_hindrance 42 = .ok (.aload_n 0, 1) := by decide +kernel
theorem dX2_hindrance_43 : decode cX2_hindrance 43 = .ok (.getfield 33, 3) := by decide +kernel
theorem dX2_hindrance_46 : decode cX2_hindrance 46 = .ok (.getfield 183, 3) := by decide +kernel
theorem dX2_hindrance_49 : decode cX2_hindrance 49 = .ok (.ifCond .ge 7, 3) := by decide +kernel
theorem dX2_hindrance_52 : decode cX2_hindrance 52 = .ok (.iconst 2, 1) := by decide +kernel
theorem dX2_hindrance_53 : decode cX2_hindrance 53 = .ok (.goto 4, 3) := by decide +kernel
theorem dX2_hindrance_56 : decode cX2_hindrance 56 = .ok (.iconst 0, 1) := by decide +kernel
theorem dX2_hindrance_57 : decode cX2_hindrance 57 = .ok (.ireturn, 1) := by decide +kernel
theorem dX2_fixturesInTime_0 : decode cX2_fixturesInTime 0 = .ok (.aload_n 0, 1) := by decide +kernel
theorem dX2_fixturesInTime_1 : decode cX2_fixturesInTime 1 = .ok (.getfield 20, 3) := by decide +kernel
theorem dX2_fixturesInTime_4 : decode cX2_fixturesInTime 4 = .ok (.iload_n 1, 1) := by decide +kernel
theorem dX2_fixturesInTime_5 : decode cX2_fixturesInTime 5 = .ok (.aaload, 1) := by decide +kernel
theorem dX2_fixturesInTime_6 : decode cX2_fixturesInTime 6 = .ok (.astore_n 2, 1) := by decide +kernel
theorem dX2_fixturesInTime_7 : decode cX2_fixturesInTime 7 = .ok (.aload_n 0, 1) := by decide +kernel
theorem dX2_fixturesInTime_8 : decode cX2_fixturesInTime 8 = .ok (.getfield 33, 3) := by decide +kernel
theorem dX2_fixturesInTime_11 : decode cX2_fixturesInTime 11 = .ok (.aload_n 2, 1) := by decide +kernel
theorem dX2_fixturesInTime_12 : decode cX2_fixturesInTime 12 = .ok (.invokevirtual 166, 3) := by decide +kernel
theorem dX2_fixturesInTime_15 : decode cX2_fixturesInTime 15 = .ok (.iconst 0, 1) := by decide +kernel
theorem dX2_fixturesInTime_16 : decode cX2_fixturesInTime 16 = .ok (.istore_n 3, 1) := by decide +kernel
theorem dX2_fixturesInTime_17 : decode cX2_fixturesInTime 17 = .ok (.iload_n 3, 1) := by decide +kernel
theorem dX2_fixturesInTime_18 : decode cX2_fixturesInTime 18 = .ok (.aload_n 2, 1) := by decide +kernel
theorem dX2_fixturesInTime_19 : decode cX2_fixturesInTime 19 = .ok (.getfield 126, 3) := by decide +kernel
theorem dX2_fixturesInTime_22 : decode cX2_fixturesInTime 22 = .ok (.if_icmp .ge 32, 3) := by decide +kernel
theorem dX2_fixturesInTime_25 : decode cX2_fixturesInTime 25 = .ok (.aload_n 0, 1) := by decide +kernel
theorem dX2_fixturesInTime_26 : decode cX2_fixturesInTime 26 = .ok (.aload_n 2, 1) := by decide +kernel
theorem dX2_fixturesInTime_27 : decode cX2_fixturesInTime 27 = .ok (.aload_n 2, 1) := by decide +kernel
theorem dX2_fixturesInTime_28 : decode cX2_fixturesInTime 28 = .ok (.getfield 129, 3) := by decide +kernel
theorem dX2_fixturesInTime_31 : decode cX2_fixturesInTime 31 = .ok (.iload_n 3, 1) := by decide +kernel
theorem dX2_fixturesInTime_32 : decode cX2_fixturesInTime 32 = .ok (.iaload, 1) := by decide +kernel
theorem dX2_fixturesInTime_33 : decode cX2_fixturesInTime 33 = .ok (.invokevirtual 169, 3) := by decide +kernel
theorem dX2_fixturesInTime_36 : decode cX2_fixturesInTime 36 = .ok (.aload_n 0, 1) := by decide +kernel
theorem dX2_fixturesInTime_37 : decode cX2_fixturesInTime 37 = .ok (.getfield 33, 3) := by decide +kernel
theorem dX2_fixturesInTime_40 : decode cX2_fixturesInTime 40 = .ok (.getfield 183, 3) := by decide +kernel
theorem dX2_fixturesInTime_43 : decode cX2_fixturesInTime 43 = .ok (.ifCond .ge 5, 3) := by decide +kernel
theorem dX2_fixturesInTime_46 : decode cX2_fixturesInTime 46 = .ok (.iload_n 3, 1) := by decide +kernel
theorem dX2_fixturesInTime_47 : decode cX2_fixturesInTime 47 = .ok (.ireturn, 1) := by decide +kernel
theorem dX2_fixturesInTime_48 : decode cX2_fixturesInTime 48 = .ok (.iinc 3 1, 3) := by decide +kernel
theorem dX2_fixturesInTime_51 : decode cX2_fixturesInTime 51 = .ok (.goto (-34), 3) := by decide +kernel
theorem dX2_fixturesInTime_54 : decode cX2_fixturesInTime 54 = .ok (.aload_n 2, 1) := by decide +kernel
theorem dX2_fixturesInTime_55 : decode cX2_fixturesInTime 55 = .ok (.getfield 126, 3) := by decide +kernel
theorem dX2_fixturesInTime_58 : decode cX2_fixturesInTime 58 = .ok (.ireturn, 1) := by decide +kernel
theorem dX2_slackOf_0 : decode cX2_slackOf 0 = .ok (.aload_n 0, 1) := by decide +kernel
theorem dX2_slackOf_1 : decode cX2_slackOf 1 = .ok (.getfield 20, 3) := by decide +kernel
theorem dX2_slackOf_4 : decode cX2_slackOf 4 = .ok (.iload_n 1, 1) := by decide +kernel
theorem dX2_slackOf_5 : decode cX2_slackOf 5 = .ok (.aaload, 1) := by decide +kernel
theorem dX2_slackOf_6 : decode cX2_slackOf 6 = .ok (.astore_n 2, 1) := by decide +kernel
theorem dX2_slackOf_7 : decode cX2_slackOf 7 = .ok (.ldc 200, 2) := by decide +kernel
theorem dX2_slackOf_9 : decode cX2_slackOf 9 = .ok (.istore_n 3, 1) := by decide +kernel
theorem dX2_slackOf_10 : decode cX2_slackOf 10 = .ok (.iconst 0, 1) := by decide +kernel
theorem dX2_slackOf_11 : decode cX2_slackOf 11 = .ok (.istore 4, 2) := by decide +kernel
theorem dX2_slackOf_13 : decode cX2_slackOf 13 = .ok (.aload_n 0, 1) := by decide +kernel
theorem dX2_slackOf_14 : decode cX2_slackOf 14 = .ok (.getfield 33, 3) := by decide +kernel
theorem dX2_slackOf_17 : decode cX2_slackOf 17 = .ok (.aload_n 2, 1) := by decide +kernel
theorem dX2_slackOf_18 : decode cX2_slackOf 18 = .ok (.invokevirtual 166, 3) := by decide +kernel
theorem dX2_slackOf_21 : decode cX2_slackOf 21 = .ok (.iconst 0, 1) := by decide +kernel
theorem dX2_slackOf_22 : decode cX2_slackOf 22 = .ok (.istore 5, 2) := by decide +kernel
theorem dX2_slackOf_24 : decode cX2_slackOf 24 = .ok (.iload 5, 2) := by decide +kernel
theorem dX2_slackOf_26 : decode cX2_slackOf 26 = .ok (.aload_n 2, 1) := by decide +kernel
theorem dX2_slackOf_27 : decode cX2_slackOf 27 = .ok (.getfield 126, 3) := by decide +kernel
theorem dX2_slackOf_30 : decode cX2_slackOf 30 = .ok (.if_icmp .ge 70, 3) := by decide +kernel
theorem dX2_slackOf_33 : decode cX2_slackOf 33 = .ok (.aload_n 0, 1) := by decide +kernel
theorem dX2_slackOf_34 : decode cX2_slackOf 34 = .ok (.aload_n 2, 1) := by decide +kernel
theorem dX2_slackOf_35 : decode cX2_slackOf 35 = .ok (.aload_n 2, 1) := by decide +kernel
theorem dX2_slackOf_36 : decode cX2_slackOf 36 = .ok (.getfield 129, 3) := by decide +kernel
theorem dX2_slackOf_39 : decode cX2_slackOf 39 = .ok (.iload 5, 2) := by decide +kernel
theorem dX2_slackOf_41 : decode cX2_slackOf 41 = .ok (.iaload, 1) := by decide +kernel
theorem dX2_slackOf_42 : decode cX2_slackOf 42 = .ok (.invokevirtual 169, 3) := by decide +kernel
theorem dX2_slackOf_45 : decode cX2_slackOf 45 = .ok (.aload_n 0, 1) := by decide +kernel
theorem dX2_slackOf_46 : decode cX2_slackOf 46 = .ok (.getfield 33, 3) := by decide +kernel
theorem dX2_slackOf_49 : decode cX2_slackOf 49 = .ok (.getfield 183, 3) := by decide +kernel
theorem dX2_slackOf_52 : decode cX2_slackOf 52 = .ok (.iload 4, 2) := by decide +kernel
theorem dX2_slackOf_54 : decode cX2_slackOf 54 = .ok (.iadd, 1) := by decide +kernel
theorem dX2_slackOf_55 : decode cX2_slackOf 55 = .ok (.istore 6, 2) := by decide +kernel
theorem dX2_slackOf_57 : decode cX2_slackOf 57 = .ok (.iload 5, 2) := by decide +kernel
theorem dX2_slackOf_59 : decode cX2_slackOf 59 = .ok (.ifCond .ne 8, 3) := by decide +kernel
theorem dX2_slackOf_62 : decode cX2_slackOf 62 = .ok (.iload 6, 2) := by decide +kernel
theorem dX2_slackOf_64 : decode cX2_slackOf 64 = .ok (.goto 9, 3) := by decide +kernel
theorem dX2_slackOf_67 : decode cX2_slackOf 67 = .ok (.iload_n 3, 1) := by decide +kernel
theorem dX2_slackOf_68 : decode cX2_slackOf 68 = .ok (.iload 6, 2) := by decide +kernel
theorem dX2_slackOf_70 : decode cX2_slackOf 70 = .ok (.invokestatic 201, 3) := by decide +kernel
theorem dX2_slackOf_73 : decode cX2_slackOf 73 = .ok (.istore_n 3, 1) := by decide +kernel
theorem dX2_slackOf_74 : decode cX2_slackOf 74 = .ok (.iload 4, 2) := by decide +kernel
theorem dX2_slackOf_76 : decode cX2_slackOf 76 = .ok (.aload_n 0, 1) := by decide +kernel
theorem dX2_slackOf_77 : decode cX2_slackOf 77 = .ok (.getfield 33, 3) := by decide +kernel
theorem dX2_slackOf_80 : decode cX2_slackOf 80 = .ok (.getfield 191, 3) := by decide +kernel
theorem dX2_slackOf_83 : decode cX2_slackOf 83 = .ok (.aload_n 0, 1) := by decide +kernel
theorem dX2_slackOf_84 : decode cX2_slackOf 84 = .ok (.getfield 33, 3) := by decide +kernel
theorem dX2_slackOf_87 : decode cX2_slackOf 87 = .ok (.getfield 180, 3) := by decide +kernel
theorem dX2_slackOf_90 : decode cX2_slackOf 90 = .ok (.isub, 1) := by decide +kernel
theorem dX2_slackOf_91 : decode cX2_slackOf 91 = .ok (.iadd, 1) := by decide +kernel
theorem dX2_slackOf_92 : decode cX2_slackOf 92 = .ok (.istore 4, 2) := by decide +kernel
theorem dX2_slackOf_94 : decode cX2_slackOf 94 = .ok (.iinc 5 1, 3) := by decide +kernel
theorem dX2_slackOf_97 : decode cX2_slackOf 97 = .ok (.goto (-73), 3) := by decide +kernel
theorem dX2_slackOf_100 : decode cX2_slackOf 100 = .ok (.iload_n 3, 1) := by decide +kernel
theorem dX2_slackOf_101 : decode cX2_slackOf 101 = .ok (.ireturn, 1) := by decide +kernel
theorem dX2_choose_0 : decode cX2_choose 0 = .ok (.iconst 0, 1) := by decide +kernel
theorem dX2_choose_1 : decode cX2_choose 1 = .ok (.istore 5, 2) := by decide +kernel
theorem dX2_choose_3 : decode cX2_choose 3 = .ok (.iload_n 1, 1) := by decide +kernel
theorem dX2_choose_4 : decode cX2_choose 4 = .ok (.istore 6, 2) := by decide +kernel
theorem dX2_choose_6 : decode cX2_choose 6 = .ok (.iload 6, 2) := by decide +kernel
theorem dX2_choose_8 : decode cX2_choose 8 = .ok (.iload_n 2, 1) := by decide +kernel
theorem dX2_choose_9 : decode cX2_choose 9 = .ok (.if_icmp .ge 97, 3) := by decide +kernel
theorem dX2_choose_12 : decode cX2_choose 12 = .ok (.iload_n 3, 1) := by decide +kernel
theorem dX2_choose_13 : decode cX2_choose 13 = .ok (.istore 7, 2) := by decide +kernel
theorem dX2_choose_15 : decode cX2_choose 15 = .ok (.iload 7, 2) := by decide +kernel
theorem dX2_choose_17 : decode cX2_choose 17 = .ok (.iload 4, 2) := by decide +kernel
theorem dX2_choose_19 : decode cX2_choose 19 = .ok (.if_icmp .ge 81, 3) := by decide +kernel
theorem dX2_choose_22 : decode cX2_choose 22 = .ok (.aload_n 0, 1) := by decide +kernel
theorem dX2_choose_23 : decode cX2_choose 23 = .ok (.getfield 26, 3) := by decide +kernel
theorem dX2_choose_26 : decode cX2_choose 26 = .ok (.iload 7, 2) := by decide +kernel
theorem dX2_choose_28 : decode cX2_choose 28 = .ok (.aaload, 1) := by decide +kernel
theorem dX2_choose_29 : decode cX2_choose 29 = .ok (.getfield 119, 3) := by decide +kernel
theorem dX2_choose_32 : decode cX2_choose 32 = .ok (.ifCond .ne 62, 3) := by decide +kernel
theorem dX2_choose_35 : decode cX2_choose 35 = .ok (.aload_n 0, 1) := by decide +kernel
theorem dX2_choose_36 : decode cX2_choose 36 = .ok (.iload 6, 2) := by decide +kernel
theorem dX2_choose_38 : decode cX2_choose 38 = .ok (.iload 7, 2) := by decide +kernel
theorem dX2_choose_40 : decode cX2_choose 40 = .ok (.invokevirtual 122, 3) := by decide +kernel
theorem dX2_choose_43 : decode cX2_choose 43 = .ok (.ifCond .eq 6, 3) := by decide +kernel
theorem dX2_choose_46 : decode cX2_choose 46 = .ok (.goto 48, 3) := by decide +kernel
theorem dX2_choose_49 : decode cX2_choose 49 = .ok (.iload 5, 2) := by decide +kernel
theorem dX2_choose_51 : decode cX2_choose 51 = .ok (.ifCond .eq 17, 3) := by decide +kernel
theorem dX2_choose_54 : decode cX2_choose 54 = .ok (.aload_n 0, 1) := by decide +kernel
theorem dX2_choose_55 : decode cX2_choose 55 = .ok (.getfield 33, 3) := by decide +kernel
theorem dX2_choose_58 : decode cX2_choose 58 = .ok (.getfield 197, 3) := by decide +kernel
theorem dX2_choose_61 : decode cX2_choose 61 = .ok (.aload_n 0, 1) := by decide +kernel
theorem dX2_choose_62 : decode cX2_choose 62 = .ok (.getfield 204, 3) := by decide +kernel
theorem dX2_choose_65 : decode cX2_choose 65 = .ok (.if_icmp .le 29, 3) := by decide +kernel
theorem dX2_choose_68 : decode cX2_choose 68 = .ok (.iconst 1, 1) := by decide +kernel
theorem dX2_choose_69 : decode cX2_choose 69 = .ok (.istore 5, 2) := by decide +kernel
theorem dX2_choose_71 : decode cX2_choose 71 = .ok (.aload_n 0, 1) := by decide +kernel
theorem dX2_choose_72 : decode cX2_choose 72 = .ok (.iload 6, 2) := by decide +kernel
theorem dX2_choose_74 : decode cX2_choose 74 = .ok (.putfield 207, 3) := by decide +kernel
theorem dX2_choose_77 : decode cX2_choose 77 = .ok (.aload_n 0, 1) := by decide +kernel
theorem dX2_choose_78 : decode cX2_choose 78 = .ok (.iload 7, 2) := by decide +kernel
theorem dX2_choose_80 : decode cX2_choose 80 = .ok (.putfield 210, 3) := by decide +kernel
theorem dX2_choose_83 : decode cX2_choose 83 = .ok (.aload_n 0, 1) := by decide +kernel
theorem dX2_choose_84 : decode cX2_choose 84 = .ok (.aload_n 0, 1) := by decide +kernel
theorem dX2_choose_85 : decode cX2_choose 85 = .ok (.getfield 33, 3) := by decide +kernel
theorem dX2_choose_88 : decode cX2_choose 88 = .ok (.getfield 197, 3) := by decide +kernel
theorem dX2_choose_91 : decode cX2_choose 91 = .ok (.putfield 204, 3) := by decide +kernel
theorem dX2_choose_94 : decode cX2_choose 94 = .ok (.iinc 7 1, 3) := by decide +kernel
theorem dX2_choose_97 : decode cX2_choose 97 = .ok (.goto (-82), 3) := by decide +kernel
theorem dX2_choose_100 : decode cX2_choose 100 = .ok (.iinc 6 1, 3) := by decide +kernel
theorem dX2_choose_103 : decode cX2_choose 103 = .ok (.goto (-97), 3) := by decide +kernel
theorem dX2_choose_106 : decode cX2_choose 106 = .ok (.iload 5, 2) := by decide +kernel
theorem dX2_choose_108 : decode cX2_choose 108 = .ok (.ireturn, 1) := by decide +kernel
theorem dX2_chooseGainful_0 : decode cX2_chooseGainful 0 = .ok (.aload_n 0, 1) := by decide +kernel
theorem dX2_chooseGainful_1 : decode cX2_chooseGainful 1 = .ok (.iconst 0, 1) := by decide +kernel
theorem dX2_chooseGainful_2 : decode cX2_chooseGainful 2 = .ok (.aload_n 0, 1) := by decide +kernel
theorem dX2_chooseGainful_3 : decode cX2_chooseGainful 3 = .ok (.getfield 52, 3) := by decide +kernel
theorem dX2_chooseGainful_6 : decode cX2_chooseGainful 6 = .ok (.iconst 0, 1) := by decide +kernel
theorem dX2_chooseGainful_7 : decode cX2_chooseGainful 7 = .ok (.aload_n 0, 1) := by decide +kernel
theorem dX2_chooseGainful_8 : decode cX2_chooseGainful 8 = .ok (.getfield 56, 3) := by decide +kernel
theorem dX2_chooseGainful_11 : decode cX2_chooseGainful 11 = .ok (.invokevirtual 213, 3) := by decide +kernel
theorem dX2_chooseGainful_14 : decode cX2_chooseGainful 14 = .ok (.ifCond .eq 14, 3) := by decide +kernel
theorem dX2_chooseGainful_17 : decode cX2_chooseGainful 17 = .ok (.aload_n 0, 1) := by decide +kernel
theorem dX2_chooseGainful_18 : decode cX2_chooseGainful 18 = .ok (.getfield 204, 3) := by decide +kernel
theorem dX2_chooseGainful_21 : decode cX2_chooseGainful 21 = .ok (.ifCond .le 7, 3) := by decide +kernel
theorem dX2_chooseGainful_24 : decode cX2_chooseGainful 24 = .ok (.iconst 1, 1) := by decide +kernel
theorem dX2_chooseGainful_25 : decode cX2_chooseGainful 25 = .ok (.goto 4, 3) := by decide +kernel
theorem dX2_chooseGainful_28 : decode cX2_chooseGainful 28 = .ok (.iconst 0, 1) := by decide +kernel
theorem dX2_chooseGainful_29 : decode cX2_chooseGainful 29 = .ok (.ireturn, 1) := by decide +kernel
theorem dX2_cargoesThatAre_0 : decode cX2_cargoesThatAre 0 = .ok (.iconst 0, 1) := by decide +kernel
theorem dX2_cargoesThatAre_1 : decode cX2_cargoesThatAre 1 = .ok (.istore_n 2, 1) := by decide +kernel
theorem dX2_cargoesThatAre_2 : decode cX2_cargoesThatAre 2 = .ok (.iconst 0, 1) := by decide +kernel
theorem dX2_cargoesThatAre_3 : decode cX2_cargoesThatAre 3 = .ok (.istore_n 3, 1) := by decide +kernel
theorem dX2_cargoesThatAre_4 : decode cX2_cargoesThatAre 4 = .ok (.iload_n 3, 1) := by decide +kernel
theorem dX2_cargoesThatAre_5 : decode cX2_cargoesThatAre 5 = .ok (.aload_n 0, 1) := by decide +kernel
theorem dX2_cargoesThatAre_6 : decode cX2_cargoesThatAre 6 = .ok (.getfield 56, 3) := by decide +kernel
theorem dX2_cargoesThatAre_9 : decode cX2_cargoesThatAre 9 = .ok (.if_icmp .ge 25, 3) := by decide +kernel
theorem dX2_cargoesThatAre_12 : decode cX2_cargoesThatAre 12 = .ok (.aload_n 0, 1) := by decide +kernel
theorem dX2_cargoesThatAre_13 : decode cX2_cargoesThatAre 13 = .ok (.getfield 26, 3) := by decide +kernel
theorem dX2_cargoesThatAre_16 : decode cX2_cargoesThatAre 16 = .ok (.iload_n 3, 1) := by decide +kernel
theorem dX2_cargoesThatAre_17 : decode cX2_cargoesThatAre 17 = .ok (.aaload, 1) := by decide +kernel
theorem dX2_cargoesThatAre_18 : decode cX2_cargoesThatAre 18 = .ok (.getfield 119, 3) := by decide +kernel
theorem dX2_cargoesThatAre_21 : decode cX2_cargoesThatAre 21 = .ok (.iload_n 1, 1) := by decide +kernel
theorem dX2_cargoesThatAre_22 : decode cX2_cargoesThatAre 22 = .ok (.if_icmp .ne 6, 3) := by decide +kernel
theorem dX2_cargoesThatAre_25 : decode cX2_cargoesThatAre 25 = .ok (.iinc 2 1, 3) := by decide +kernel
theorem dX2_cargoesThatAre_28 : decode cX2_cargoesThatAre 28 = .ok (.iinc 3 1, 3) := by decide +kernel
theorem dX2_cargoesThatAre_31 : decode cX2_cargoesThatAre 31 = .ok (.goto (-27), 3) := by decide +kernel
theorem dX2_cargoesThatAre_34 : decode cX2_cargoesThatAre 34 = .ok (.iload_n 2, 1) := by decide +kernel
theorem dX2_cargoesThatAre_35 : decode cX2_cargoesThatAre 35 = .ok (.ireturn, 1) := by decide +kernel
theorem dX2_openCargoes_0 : decode cX2_openCargoes 0 = .ok (.iconst 0, 1) := by decide +kernel
theorem dX2_openCargoes_1 : decode cX2_openCargoes 1 = .ok (.istore_n 1, 1) := by decide +kernel
theorem dX2_openCargoes_2 : decode cX2_openCargoes 2 = .ok (.iconst 0, 1) := by decide +kernel
theorem dX2_openCargoes_3 : decode cX2_openCargoes 3 = .ok (.istore_n 2, 1) := by decide +kernel
theorem dX2_openCargoes_4 : decode cX2_openCargoes 4 = .ok (.iload_n 2, 1) := by decide +kernel
theorem dX2_openCargoes_5 : decode cX2_openCargoes 5 = .ok (.aload_n 0, 1) := by decide +kernel
theorem dX2_openCargoes_6 : decode cX2_openCargoes 6 = .ok (.getfield 56, 3) := by decide +kernel
theorem dX2_openCargoes_9 : decode cX2_openCargoes 9 = .ok (.if_icmp .ge 27, 3) := by decide +kernel
theorem dX2_openCargoes_12 : decode cX2_openCargoes 12 = .ok (.aload_n 0, 1) := by decide +kernel
theorem dX2_openCargoes_13 : decode cX2_openCargoes 13 = .ok (.getfield 26, 3) := by decide +kernel
theorem dX2_openCargoes_16 : decode cX2_openCargoes 16 = .ok (.iload_n 2, 1) := by decide +kernel
theorem dX2_openCargoes_17 : decode cX2_openCargoes 17 = .ok (.aaload, 1) := by decide +kernel
theorem dX2_openCargoes_18 : decode cX2_openCargoes 18 = .ok (.getfield 119, 3) := by decide +kernel
theorem dX2_openCargoes_21 : decode cX2_openCargoes 21 = .ok (.ifCond .ne 9, 3) := by decide +kernel
theorem dX2_openCargoes_24 : decode cX2_openCargoes 24 = .ok (.iload_n 1, 1) := by decide +kernel
theorem dX2_openCargoes_25 : decode cX2_openCargoes 25 = .ok (.iconst 1, 1) := by decide +kernel
theorem dX2_openCargoes_26 : decode cX2_openCargoes 26 = .ok (.iload_n 2, 1) := by decide +kernel
theorem dX2_openCargoes_27 : decode cX2_openCargoes 27 = .ok (.ishl, 1) := by decide +kernel
theorem dX2_openCargoes_28 : decode cX2_openCargoes 28 = .ok (.ior, 1) := by decide +kernel
theorem dX2_openCargoes_29 : decode cX2_openCargoes 29 = .ok (.istore_n 1, 1) := by decide +kernel
theorem dX2_openCargoes_30 : decode cX2_openCargoes 30 = .ok (.iinc 2 1, 3) := by decide +kernel
theorem dX2_openCargoes_33 : decode cX2_openCargoes 33 = .ok (.goto (-29), 3) := by decide +kernel
theorem dX2_openCargoes_36 : decode cX2_openCargoes 36 = .ok (.iload_n 1, 1) := by decide +kernel
theorem dX2_openCargoes_37 : decode cX2_openCargoes 37 = .ok (.ireturn, 1) := by decide +kernel
theorem dX2_pairOf_0 : decode cX2_pairOf 0 = .ok (.aload_n 0, 1) := by decide +kernel
theorem dX2_pairOf_1 : decode cX2_pairOf 1 = .ok (.iload_n 1, 1) := by decide +kernel
theorem dX2_pairOf_2 : decode cX2_pairOf 2 = .ok (.invokevirtual 116, 3) := by decide +kernel
theorem dX2_pairOf_5 : decode cX2_pairOf 5 = .ok (.ifCond .eq 30, 3) := by decide +kernel
theorem dX2_pairOf_8 : decode cX2_pairOf 8 = .ok (.lconst 1, 1) := by decide +kernel
theorem dX2_pairOf_9 : decode cX2_pairOf 9 = .ok (.bipush 8, 2) := by decide +kernel
theorem dX2_pairOf_11 : decode cX2_pairOf 11 = .ok (.aload_n 0, 1) := by decide +kernel
theorem dX2_pairOf_12 : decode cX2_pairOf 12 = .ok (.getfield 26, 3) := by decide +kernel
theorem dX2_pairOf_15 : decode cX2_pairOf 15 = .ok (.iload_n 1, 1) := by decide +kernel
theorem dX2_pairOf_16 : decode cX2_pairOf 16 = .ok (.aaload, 1) := by decide +kernel
theorem dX2_pairOf_17 : decode cX2_pairOf 17 = .ok (.getfield 98, 3) := by decide +kernel
theorem dX2_pairOf_20 : decode cX2_pairOf 20 = .ok (.imul, 1) := by decide +kernel
theorem dX2_pairOf_21 : decode cX2_pairOf 21 = .ok (.aload_n 0, 1) := by decide +kernel
theorem dX2_pairOf_22 : decode cX2_pairOf 22 = .ok (.getfield 26, 3) := by decide +kernel
theorem dX2_pairOf_25 : decode cX2_pairOf 25 = .ok (.iload_n 1, 1) := by decide +kernel
theorem dX2_pairOf_26 : decode cX2_pairOf 26 = .ok (.aaload, 1) := by decide +kernel
theorem dX2_pairOf_27 : decode cX2_pairOf 27 = .ok (.getfield 101, 3) := by decide +kernel
theorem dX2_pairOf_30 : decode cX2_pairOf 30 = .ok (.iadd, 1) := by decide +kernel
theorem dX2_pairOf_31 : decode cX2_pairOf 31 = .ok (.lshl, 1) := by decide +kernel
theorem dX2_pairOf_32 : decode cX2_pairOf 32 = .ok (.goto 4, 3) := by decide +kernel
theorem dX2_pairOf_35 : decode cX2_pairOf 35 = .ok (.lconst 0, 1) := by decide +kernel
theorem dX2_pairOf_36 : decode cX2_pairOf 36 = .ok (.lreturn, 1) := by decide +kernel
theorem dX2_accountsTogether_0 : decode cX2_accountsTogether 0 = .ok (.iconst 0, 1) := by decide +kernel
theorem dX2_accountsTogether_1 : decode cX2_accountsTogether 1 = .ok (.istore_n 1, 1) := by decide +kernel
theorem dX2_accountsTogether_2 : decode cX2_accountsTogether 2 = .ok (.iconst 0, 1) := by decide +kernel
theorem dX2_accountsTogether_3 : decode cX2_accountsTogether 3 = .ok (.istore_n 2, 1) := by decide +kernel
theorem dX2_accountsTogether_4 : decode cX2_accountsTogether 4 = .ok (.iload_n 2, 1) := by decide +kernel
theorem dX2_accountsTogether_5 : decode cX2_accountsTogether 5 = .ok (.aload_n 0, 1) := by decide +kernel
theorem dX2_accountsTogether_6 : decode cX2_accountsTogether 6 = .ok (.getfield 52, 3) := by decide +kernel
theorem dX2_accountsTogether_9 : decode cX2_accountsTogether 9 = .ok (.if_icmp .ge 21, 3) := by decide +kernel
theorem dX2_accountsTogether_12 : decode cX2_accountsTogether 12 = .ok (.iload_n 1, 1) := by decide +kernel
theorem dX2_accountsTogether_13 : decode cX2_accountsTogether 13 = .ok (.aload_n 0, 1) := by decide +kernel
theorem dX2_accountsTogether_14 : decode cX2_accountsTogether 14 = .ok (.getfield 20, 3) := by decide +kernel
theorem dX2_accountsTogether_17 : decode cX2_accountsTogether 17 = .ok (.iload_n 2, 1) := by decide +kernel
theorem dX2_accountsTogether_18 : decode cX2_accountsTogether 18 = .ok (.aaload, 1) := by decide +kernel
theorem dX2_accountsTogether_19 : decode cX2_accountsTogether 19 = .ok (.getfield 152, 3) := by decide +kernel
theorem dX2_accountsTogether_22 : decode cX2_accountsTogether 22 = .ok (.iadd, 1) := by decide +kernel
theorem dX2_accountsTogether_23 : decode cX2_accountsTogether 23 = .ok (.istore_n 1, 1) := by decide +kernel
theorem dX2_accountsTogether_24 : decode cX2_accountsTogether 24 = .ok (.iinc 2 1, 3) := by decide +kernel
theorem dX2_accountsTogether_27 : decode cX2_accountsTogether 27 = .ok (.goto (-23), 3) := by decide +kernel
theorem dX2_accountsTogether_30 : decode cX2_accountsTogether 30 = .ok (.iload_n 1, 1) := by decide +kernel
theorem dX2_accountsTogether_31 : decode cX2_accountsTogether 31 = .ok (.ireturn, 1) := by decide +kernel
theorem dX3_init_0 : decode cX3_init 0 = .ok (.aload_n 0, 1) := by decide +kernel
theorem dX3_init_1 : decode cX3_init 1 = .ok (.invokespecial 1, 3) := by decide +kernel
theorem dX3_init_4 : decode cX3_init 4 = .ok (.return_, 1) := by decide +kernel
theorem dX4_init_0 : decode cX4_init 0 = .ok (.aload_n 0, 1) := by decide +kernel
theorem dX4_init_1 : decode cX4_init 1 = .ok (.invokespecial 3, 3) := by decide +kernel
theorem dX4_init_4 : decode cX4_init 4 = .ok (.aload_n 0, 1) := by decide +kernel
theorem dX4_init_5 : decode cX4_init 5 = .ok (.iconst 4, 1) := by decide +kernel
theorem dX4_init_6 : decode cX4_init 6 = .ok (.anewarray 9, 3) := by decide +kernel
theorem dX4_init_9 : decode cX4_init 9 = .ok (.putfield 11, 3) := by decide +kernel
theorem dX4_init_12 : decode cX4_init 12 = .ok (.iconst 0, 1) := by decide +kernel
theorem dX4_init_13 : decode cX4_init 13 = .ok (.istore_n 1, 1) := by decide +kernel
theorem dX4_init_14 : decode cX4_init 14 = .ok (.iload_n 1, 1) := by decide +kernel
theorem dX4_init_15 : decode cX4_init 15 = .ok (.iconst 4, 1) := by decide +kernel
theorem dX4_init_16 : decode cX4_init 16 = .ok (.if_icmp .ge 22, 3) := by decide +kernel
theorem dX4_init_19 : decode cX4_init 19 = .ok (.aload_n 0, 1) := by decide +kernel
theorem dX4_init_20 : decode cX4_init 20 = .ok (.getfield 11, 3) := by decide +kernel
theorem dX4_init_23 : decode cX4_init 23 = .ok (.iload_n 1, 1) := by decide +kernel
theorem dX4_init_24 : decode cX4_init 24 = .ok (.new 9, 3) := by decide +kernel
theorem dX4_init_27 : decode cX4_init 27 = .ok (.dup, 1) := by decide +kernel
theorem dX4_init_28 : decode cX4_init 28 = .ok (.invokespecial 17, 3) := by decide +kernel
theorem dX4_init_31 : decode cX4_init 31 = .ok (.aastore, 1) := by decide +kernel
theorem dX4_init_32 : decode cX4_init 32 = .ok (.iinc 1 1, 3) := by decide +kernel
theorem dX4_init_35 : decode cX4_init 35 = .ok (.goto (-21), 3) := by decide +kernel
theorem dX4_init_38 : decode cX4_init 38 = .ok (.return_, 1) := by decide +kernel
theorem dX4_record_0 : decode cX4_record 0 = .ok (.aload_n 0, 1) := by decide +kernel
theorem dX4_record_1 : decode cX4_record 1 = .ok (.getfield 18, 3) := by decide +kernel
theorem dX4_record_4 : decode cX4_record 4 = .ok (.iconst 4, 1) := by decide +kernel
theorem dX4_record_5 : decode cX4_record 5 = .ok (.if_icmp .lt 7, 3) := by decide +kernel
theorem dX4_record_8 : decode cX4_record 8 = .ok (.aload_n 0, 1) := by decide +kernel
theorem dX4_record_9 : decode cX4_record 9 = .ok (.invokevirtual 22, 3) := by decide +kernel
theorem dX4_record_12 : decode cX4_record 12 = .ok (.aload_n 0, 1) := by decide +kernel
theorem dX4_record_13 : decode cX4_record 13 = .ok (.getfield 11, 3) := by decide +kernel
theorem dX4_record_16 : decode cX4_record 16 = .ok (.aload_n 0, 1) := by decide +kernel
theorem dX4_record_17 : decode cX4_record 17 = .ok (.getfield 18, 3) := by decide +kernel
theorem dX4_record_20 : decode cX4_record 20 = .ok (.aaload, 1) := by decide +kernel
theorem dX4_record_21 : decode cX4_record 21 = .ok (.aload_n 1, 1) := by decide +kernel
theorem dX4_record_22 : decode cX4_record 22 = .ok (.invokevirtual 25, 3) := by decide +kernel
theorem dX4_record_25 : decode cX4_record 25 = .ok (.aload_n 0, 1) := by decide +kernel
theorem dX4_record_26 : decode cX4_record 26 = .ok (.dup, 1) := by decide +kernel
theorem dX4_record_27 : decode cX4_record 27 = .ok (.getfield 18, 3) := by decide +kernel
theorem dX4_record_30 : decode cX4_record 30 = .ok (.iconst 1, 1) := by decide +kernel
theorem dX4_record_31 : decode cX4_record 31 = .ok (.iadd, 1) := by decide +kernel
theorem dX4_record_32 : decode cX4_record 32 = .ok (.putfield 18, 3) := by decide +kernel
theorem dX4_record_35 : decode cX4_record 35 = .ok (.return_, 1) := by decide +kernel
theorem dX4_dropOldest_0 : decode cX4_dropOldest 0 = .ok (.aload_n 0, 1) := by decide +kernel
theorem dX4_dropOldest_1 : decode cX4_dropOldest 1 = .ok (.getfield 11, 3) := by decide +kernel
theorem dX4_dropOldest_4 : decode cX4_dropOldest 4 = .ok (.iconst 0, 1) := by decide +kernel
theorem dX4_dropOldest_5 : decode cX4_dropOldest 5 = .ok (.aaload, 1) := by decide +kernel
theorem dX4_dropOldest_6 : decode cX4_dropOldest 6 = .ok (.astore_n 1, 1) := by decide +kernel
theorem dX4_dropOldest_7 : decode cX4_dropOldest 7 = .ok (.iconst 1, 1) := by decide +kernel
theorem dX4_dropOldest_8 : decode cX4_dropOldest 8 = .ok (.istore_n 2, 1) := by decide +kernel
theorem dX4_dropOldest_9 : decode cX4_dropOldest 9 = .ok (.iload_n 2, 1) := by decide +kernel
theorem dX4_dropOldest_10 : decode cX4_dropOldest 10 = .ok (.iconst 4, 1) := by decide +kernel
theorem dX4_dropOldest_11 : decode cX4_dropOldest 11 = .ok (.if_icmp .ge 23, 3) := by decide +kernel
theorem dX4_dropOldest_14 : decode cX4_dropOldest 14 = .ok (.aload_n 0, 1) := by decide +kernel
theorem dX4_dropOldest_15 : decode cX4_dropOldest 15 = .ok (.getfield 11, 3) := by decide +kernel
theorem dX4_dropOldest_18 : decode cX4_dropOldest 18 = .ok (.iload_n 2, 1) := by decide +kernel
theorem dX4_dropOldest_19 : decode cX4_dropOldest 19 = .ok (.iconst 1, 1) := by decide +kernel
theorem dX4_dropOldest_20 : decode cX4_dropOldest 20 = .ok (.isub, 1) := by decide +kernel
theorem dX4_dropOldest_21 : decode cX4_dropOldest 21 = .ok (.aload_n 0, 1) := by decide +kernel
theorem dX4_dropOldest_22 : decode cX4_dropOldest 22 = .ok (.getfield 11, 3) := by decide +kernel
theorem dX4_dropOldest_25 : decode cX4_dropOldest 25 = .ok (.iload_n 2, 1) := by decide +kernel
theorem dX4_dropOldest_26 : decode cX4_dropOldest 26 = .ok (.aaload, 1) := by decide +kernel
theorem dX4_dropOldest_27 : decode cX4_dropOldest 27 = .ok (.aastore, 1) := by decide +kernel
theorem dX4_dropOldest_28 : decode cX4_dropOldest 28 = .ok (.iinc 2 1, 3) := by decide +kernel
theorem dX4_dropOldest_31 : decode cX4_dropOldest 31 = .ok (.goto (-22), 3) := by decide +kernel
theorem dX4_dropOldest_34 : decode cX4_dropOldest 34 = .ok (.aload_n 0, 1) := by decide +kernel
theorem dX4_dropOldest_35 : decode cX4_dropOldest 35 = .ok (.getfield 11, 3) := by decide +kernel
theorem dX4_dropOldest_38 : decode cX4_dropOldest 38 = .ok (.iconst 3, 1) := by decide +kernel
theorem dX4_dropOldest_39 : decode cX4_dropOldest 39 = .ok (.aload_n 1, 1) := by decide +kernel
theorem dX4_dropOldest_40 : decode cX4_dropOldest 40 = .ok (.aastore, 1) := by decide +kernel
theorem dX4_dropOldest_41 : decode cX4_dropOldest 41 = .ok (.aload_n 0, 1) := by decide +kernel
theorem dX4_dropOldest_42 : decode cX4_dropOldest 42 = .ok (.iconst 3, 1) := by decide +kernel
theorem dX4_dropOldest_43 : decode cX4_dropOldest 43 = .ok (.putfield 18, 3) := by decide +kernel
theorem dX4_dropOldest_46 : decode cX4_dropOldest 46 = .ok (.return_, 1) := by decide +kernel
theorem dX4_restore_0 : decode cX4_restore 0 = .ok (.aload_n 0, 1) := by decide +kernel
theorem dX4_restore_1 : decode cX4_restore 1 = .ok (.getfield 18, 3) := by decide +kernel
theorem dX4_restore_4 : decode cX4_restore 4 = .ok (.iconst 1, 1) := by decide +kernel
theorem dX4_restore_5 : decode cX4_restore 5 = .ok (.if_icmp .ge 5, 3) := by decide +kernel
theorem dX4_restore_8 : decode cX4_restore 8 = .ok (.iconst 0, 1) := by decide +kernel
theorem dX4_restore_9 : decode cX4_restore 9 = .ok (.ireturn, 1) := by decide +kernel
theorem dX4_restore_10 : decode cX4_restore 10 = .ok (.aload_n 0, 1) := by decide +kernel
theorem dX4_restore_11 : decode cX4_restore 11 = .ok (.dup, 1) := by decide +kernel
theorem dX4_restore_12 : decode cX4_restore 12 = .ok (.getfield 18, 3) := by decide +kernel
theorem dX4_restore_15 : decode cX4_restore 15 = .ok (.iconst 1, 1) := by decide +kernel
theorem dX4_restore_16 : decode cX4_restore 16 = .ok (.isub, 1) := by decide +kernel
theorem dX4_restore_17 : decode cX4_restore 17 = .ok (.putfield 18, 3) := by decide +kernel
theorem dX4_restore_20 : decode cX4_restore 20 = .ok (.aload_n 1, 1) := by decide +kernel
theorem dX4_restore_21 : decode cX4_restore 21 = .ok (.aload_n 0, 1) := by decide +kernel
theorem dX4_restore_22 : decode cX4_restore 22 = .ok (.getfield 11, 3) := by decide +kernel
theorem dX4_restore_25 : decode cX4_restore 25 = .ok (.aload_n 0, 1) := by decide +kernel
theorem dX4_restore_26 : decode cX4_restore 26 = .ok (.getfield 18, 3) := by decide +kernel
theorem dX4_restore_29 : decode cX4_restore 29 = .ok (.aaload, 1) := by decide +kernel
theorem dX4_restore_30 : decode cX4_restore 30 = .ok (.invokevirtual 25, 3) := by decide +kernel
theorem dX4_restore_33 : decode cX4_restore 33 = .ok (.iconst 1, 1) := by decide +kernel
theorem dX4_restore_34 : decode cX4_restore 34 = .ok (.ireturn, 1) := by decide +kernel
theorem dX5_init_0 : decode cX5_init 0 = .ok (.aload_n 0, 1) := by decide +kernel
theorem dX5_init_1 : decode cX5_init 1 = .ok (.invokespecial 3, 3) := by decide +kernel
theorem dX5_init_4 : decode cX5_init 4 = .ok (.aload_n 0, 1) := by decide +kernel
theorem dX5_init_5 : decode cX5_init 5 = .ok (.bipush 60, 2) := by decide +kernel
theorem dX5_init_7 : decode cX5_init 7 = .ok (.newarray .char, 2) := by decide +kernel
theorem dX5_init_9 : decode cX5_init 9 = .ok (.putfield 9, 3) := by decide +kernel
theorem dX5_init_12 : decode cX5_init 12 = .ok (.aload_n 0, 1) := by decide +kernel
theorem dX5_init_13 : decode cX5_init 13 = .ok (.bipush 6, 2) := by decide +kernel
theorem dX5_init_15 : decode cX5_init 15 = .ok (.newarray .int, 2) := by decide +kernel
theorem dX5_init_17 : decode cX5_init 17 = .ok (.putfield 15, 3) := by decide +kernel
theorem dX5_init_20 : decode cX5_init 20 = .ok (.return_, 1) := by decide +kernel
theorem dX6_init_0 : decode cX6_init 0 = .ok (.aload_n 0, 1) := by decide +kernel
theorem dX6_init_1 : decode cX6_init 1 = .ok (.invokespecial 3, 3) := by decide +kernel
theorem dX6_init_4 : decode cX6_init 4 = .ok (.aload_n 0, 1) := by decide +kernel
theorem dX6_init_5 : decode cX6_init 5 = .ok (.bipush 10, 2) := by decide +kernel
theorem dX6_init_7 : decode cX6_init 7 = .ok (.newarray .int, 2) := by decide +kernel
theorem dX6_init_9 : decode cX6_init 9 = .ok (.putfield 9, 3) := by decide +kernel
theorem dX6_init_12 : decode cX6_init 12 = .ok (.return_, 1) := by decide +kernel
theorem dX6_copyFrom_0 : decode cX6_copyFrom 0 = .ok (.aload_n 0, 1) := by decide +kernel
theorem dX6_copyFrom_1 : decode cX6_copyFrom 1 = .ok (.aload_n 1, 1) := by decide +kernel
theorem dX6_copyFrom_2 : decode cX6_copyFrom 2 = .ok (.getfield 15, 3) := by decide +kernel
theorem dX6_copyFrom_5 : decode cX6_copyFrom 5 = .ok (.putfield 15, 3) := by decide +kernel
theorem dX6_copyFrom_8 : decode cX6_copyFrom 8 = .ok (.aload_n 0, 1) := by decide +kernel
theorem dX6_copyFrom_9 : decode cX6_copyFrom 9 = .ok (.aload_n 1, 1) := by decide +kernel
theorem dX6_copyFrom_10 : decode cX6_copyFrom 10 = .ok (.getfield 19, 3) := by decide +kernel
theorem dX6_copyFrom_13 : decode cX6_copyFrom 13 = .ok (.putfield 19, 3) := by decide +kernel
theorem dX6_copyFrom_16 : decode cX6_copyFrom 16 = .ok (.aload_n 0, 1) := by decide +kernel
theorem dX6_copyFrom_17 : decode cX6_copyFrom 17 = .ok (.aload_n 1, 1) := by decide +kernel
theorem dX6_copyFrom_18 : decode cX6_copyFrom 18 = .ok (.getfield 22, 3) := by decide +kernel
theorem dX6_copyFrom_21 : decode cX6_copyFrom 21 = .ok (.putfield 22, 3) := by decide +kernel
theorem dX6_copyFrom_24 : decode cX6_copyFrom 24 = .ok (.aload_n 0, 1) := by decide +kernel
theorem dX6_copyFrom_25 : decode cX6_copyFrom 25 = .ok (.aload_n 1, 1) := by decide +kernel
theorem dX6_copyFrom_26 : decode cX6_copyFrom 26 = .ok (.getfield 25, 3) := by decide +kernel
theorem dX6_copyFrom_29 : decode cX6_copyFrom 29 = .ok (.putfield 25, 3) := by decide +kernel
theorem dX6_copyFrom_32 : decode cX6_copyFrom 32 = .ok (.aload_n 0, 1) := by decide +kernel
theorem dX6_copyFrom_33 : decode cX6_copyFrom 33 = .ok (.aload_n 1, 1) := by decide +kernel
theorem dX6_copyFrom_34 : decode cX6_copyFrom 34 = .ok (.getfield 28, 3) := by decide +kernel
theorem dX6_copyFrom_37 : decode cX6_copyFrom 37 = .ok (.putfield 28, 3) := by decide +kernel
theorem dX6_copyFrom_40 : decode cX6_copyFrom 40 = .ok (.aload_n 0, 1) := by decide +kernel
theorem dX6_copyFrom_41 : decode cX6_copyFrom 41 = .ok (.aload_n 1, 1) := by decide +kernel
theorem dX6_copyFrom_42 : decode cX6_copyFrom 42 = .ok (.getfield 31, 3) := by decide +kernel
theorem dX6_copyFrom_45 : decode cX6_copyFrom 45 = .ok (.putfield 31, 3) := by decide +kernel
theorem dX6_copyFrom_48 : decode cX6_copyFrom 48 = .ok (.aload_n 0, 1) := by decide +kernel
theorem dX6_copyFrom_49 : decode cX6_copyFrom 49 = .ok (.aload_n 1, 1) := by decide +kernel
theorem dX6_copyFrom_50 : decode cX6_copyFrom 50 = .ok (.getfield 34, 3) := by decide +kernel
theorem dX6_copyFrom_53 : decode cX6_copyFrom 53 = .ok (.putfield 34, 3) := by decide +kernel
theorem dX6_copyFrom_56 : decode cX6_copyFrom 56 = .ok (.aload_n 1, 1) := by decide +kernel
theorem dX6_copyFrom_57 : decode cX6_copyFrom 57 = .ok (.getfield 9, 3) := by decide +kernel
theorem dX6_copyFrom_60 : decode cX6_copyFrom 60 = .ok (.iconst 0, 1) := by decide +kernel
theorem dX6_copyFrom_61 : decode cX6_copyFrom 61 = .ok (.aload_n 0, 1) := by decide +kernel
theorem dX6_copyFrom_62 : decode cX6_copyFrom 62 = .ok (.getfield 9, 3) := by decide +kernel
theorem dX6_copyFrom_65 : decode cX6_copyFrom 65 = .ok (.iconst 0, 1) := by decide +kernel
theorem dX6_copyFrom_66 : decode cX6_copyFrom 66 = .ok (.bipush 10, 2) := by decide +kernel
theorem dX6_copyFrom_68 : decode cX6_copyFrom 68 = .ok (.invokestatic 37, 3) := by decide +kernel
theorem dX6_copyFrom_71 : decode cX6_copyFrom 71 = .ok (.return_, 1) := by decide +kernel
theorem dX7_init_0 : decode cX7_init 0 = .ok (.aload_n 0, 1) := by decide +kernel
theorem dX7_init_1 : decode cX7_init 1 = .ok (.invokespecial 1, 3) := by decide +kernel
theorem dX7_init_4 : decode cX7_init 4 = .ok (.aload_n 0, 1) := by decide +kernel
theorem dX7_init_5 : decode cX7_init 5 = .ok (.new 7, 3) := by decide +kernel
theorem dX7_init_8 : decode cX7_init 8 = .ok (.dup, 1) := by decide +kernel
theorem dX7_init_9 : decode cX7_init 9 = .ok (.invokespecial 9, 3) := by decide +kernel
theorem dX7_init_12 : decode cX7_init 12 = .ok (.putfield 10, 3) := by decide +kernel
theorem dX7_init_15 : decode cX7_init 15 = .ok (.aload_n 0, 1) := by decide +kernel
theorem dX7_init_16 : decode cX7_init 16 = .ok (.new 7, 3) := by decide +kernel
theorem dX7_init_19 : decode cX7_init 19 = .ok (.dup, 1) := by decide +kernel
theorem dX7_init_20 : decode cX7_init 20 = .ok (.invokespecial 9, 3) := by decide +kernel
theorem dX7_init_23 : decode cX7_init 23 = .ok (.putfield 16, 3) := by decide +kernel
theorem dX7_init_26 : decode cX7_init 26 = .ok (.aload_n 0, 1) := by decide +kernel
theorem dX7_init_27 : decode cX7_init 27 = .ok (.new 19, 3) := by decide +kernel
theorem dX7_init_30 : decode cX7_init 30 = .ok (.dup, 1) := by decide +kernel
theorem dX7_init_31 : decode cX7_init 31 = .ok (.invokespecial 21, 3) := by decide +kernel
theorem dX7_init_34 : decode cX7_init 34 = .ok (.putfield 22, 3) := by decide +kernel
theorem dX7_init_37 : decode cX7_init 37 = .ok (.aload_n 0, 1) := by decide +kernel
theorem dX7_init_38 : decode cX7_init 38 = .ok (.new 26, 3) := by decide +kernel
theorem dX7_init_41 : decode cX7_init 41 = .ok (.dup, 1) := by decide +kernel
theorem dX7_init_42 : decode cX7_init 42 = .ok (.invokespecial 28, 3) := by decide +kernel
theorem dX7_init_45 : decode cX7_init 45 = .ok (.putfield 29, 3) := by decide +kernel
theorem dX7_init_48 : decode cX7_init 48 = .ok (.aload_n 0, 1) := by decide +kernel
theorem dX7_init_49 : decode cX7_init 49 = .ok (.new 33, 3) := by decide +kernel
theorem dX7_init_52 : decode cX7_init 52 = .ok (.dup, 1) := by decide +kernel
theorem dX7_init_53 : decode cX7_init 53 = .ok (.invokespecial 35, 3) := by decide +kernel
theorem dX7_init_56 : decode cX7_init 56 = .ok (.putfield 36, 3) := by decide +kernel
theorem dX7_init_59 : decode cX7_init 59 = .ok (.return_, 1) := by decide +kernel
theorem dX7_port_0 : decode cX7_port 0 = .ok (.aload_n 0, 1) := by decide +kernel
theorem dX7_port_1 : decode cX7_port 1 = .ok (.aload_n 0, 1) := by decide +kernel
theorem dX7_port_2 : decode cX7_port 2 = .ok (.invokevirtual 40, 3) := by decide +kernel
theorem dX7_port_5 : decode cX7_port 5 = .ok (.iload_n 1, 1) := by decide +kernel
theorem dX7_port_6 : decode cX7_port 6 = .ok (.iload_n 2, 1) := by decide +kernel
theorem dX7_port_7 : decode cX7_port 7 = .ok (.iload_n 3, 1) := by decide +kernel
theorem dX7_port_8 : decode cX7_port 8 = .ok (.invokevirtual 44, 3) := by decide +kernel
theorem dX7_port_11 : decode cX7_port 11 = .ok (.invokevirtual 48, 3) := by decide +kernel
theorem dX7_port_14 : decode cX7_port 14 = .ok (.ireturn, 1) := by decide +kernel
theorem dX7_ship_0 : decode cX7_ship 0 = .ok (.aload_n 0, 1) := by decide +kernel
theorem dX7_ship_1 : decode cX7_ship 1 = .ok (.aload_n 0, 1) := by decide +kernel
theorem dX7_ship_2 : decode cX7_ship 2 = .ok (.invokevirtual 40, 3) := by decide +kernel
theorem dX7_ship_5 : decode cX7_ship 5 = .ok (.iload_n 1, 1) := by decide +kernel
theorem dX7_ship_6 : decode cX7_ship 6 = .ok (.iload_n 2, 1) := by decide +kernel
theorem dX7_ship_7 : decode cX7_ship 7 = .ok (.iload_n 3, 1) := by decide +kernel
theorem dX7_ship_8 : decode cX7_ship 8 = .ok (.iload 4, 2) := by decide +kernel
theorem dX7_ship_10 : decode cX7_ship 10 = .ok (.iload 5, 2) := by decide +kernel
theorem dX7_ship_12 : decode cX7_ship 12 = .ok (.invokevirtual 52, 3) := by decide +kernel
theorem dX7_ship_15 : decode cX7_ship 15 = .ok (.invokevirtual 48, 3) := by decide +kernel
theorem dX7_ship_18 : decode cX7_ship 18 = .ok (.ireturn, 1) := by decide +kernel
theorem dX7_cargo_0 : decode cX7_cargo 0 = .ok (.aload_n 0, 1) := by decide +kernel
theorem dX7_cargo_1 : decode cX7_cargo 1 = .ok (.aload_n 0, 1) := by decide +kernel
theorem dX7_cargo_2 : decode cX7_cargo 2 = .ok (.invokevirtual 40, 3) := by decide +kernel
theorem dX7_cargo_5 : decode cX7_cargo 5 = .ok (.iload_n 1, 1) := by decide +kernel
theorem dX7_cargo_6 : decode cX7_cargo 6 = .ok (.iload_n 2, 1) := by decide +kernel
theorem dX7_cargo_7 : decode cX7_cargo 7 = .ok (.iload_n 3, 1) := by decide +kernel
theorem dX7_cargo_8 : decode cX7_cargo 8 = .ok (.iload 4, 2) := by decide +kernel
theorem dX7_cargo_10 : decode cX7_cargo 10 = .ok (.iload 5, 2) := by decide +kernel
theorem dX7_cargo_12 : decode cX7_cargo 12 = .ok (.iload 6, 2) := by decide +kernel
theorem dX7_cargo_14 : decode cX7_cargo 14 = .ok (.invokevirtual 56, 3) := by decide +kernel
theorem dX7_cargo_17 : decode cX7_cargo 17 = .ok (.invokevirtual 48, 3) := by decide +kernel
theorem dX7_cargo_20 : decode cX7_cargo 20 = .ok (.ireturn, 1) := by decide +kernel
theorem dX7_fix_0 : decode cX7_fix 0 = .ok (.aload_n 0, 1) := by decide +kernel
theorem dX7_fix_1 : decode cX7_fix 1 = .ok (.aload_n 0, 1) := by decide +kernel
theorem dX7_fix_2 : decode cX7_fix 2 = .ok (.invokevirtual 40, 3) := by decide +kernel
theorem dX7_fix_5 : decode cX7_fix 5 = .ok (.iload_n 1, 1) := by decide +kernel
theorem dX7_fix_6 : decode cX7_fix 6 = .ok (.iload_n 2, 1) := by decide +kernel
theorem dX7_fix_7 : decode cX7_fix 7 = .ok (.invokevirtual 60, 3) := by decide +kernel
theorem dX7_fix_10 : decode cX7_fix 10 = .ok (.invokevirtual 48, 3) := by decide +kernel
theorem dX7_fix_13 : decode cX7_fix 13 = .ok (.ireturn, 1) := by decide +kernel
theorem dX7_delay_0 : decode cX7_delay 0 = .ok (.aload_n 0, 1) := by decide +kernel
theorem dX7_delay_1 : decode cX7_delay 1 = .ok (.aload_n 0, 1) := by decide +kernel
theorem dX7_delay_2 : decode cX7_delay 2 = .ok (.invokevirtual 40, 3) := by decide +kernel
theorem dX7_delay_5 : decode cX7_delay 5 = .ok (.iload_n 1, 1) := by decide +kernel
theorem dX7_delay_6 : decode cX7_delay 6 = .ok (.iload_n 2, 1) := by decide +kernel
theorem dX7_delay_7 : decode cX7_delay 7 = .ok (.invokevirtual 64, 3) := by decide +kernel
theorem dX7_delay_10 : decode cX7_delay 10 = .ok (.invokevirtual 48, 3) := by decide +kernel
theorem dX7_delay_13 : decode cX7_delay 13 = .ok (.ireturn, 1) := by decide +kernel
theorem dX7_callOff_0 : decode cX7_callOff 0 = .ok (.aload_n 0, 1) := by decide +kernel
theorem dX7_callOff_1 : decode cX7_callOff 1 = .ok (.aload_n 0, 1) := by decide +kernel
theorem dX7_callOff_2 : decode cX7_callOff 2 = .ok (.invokevirtual 40, 3) := by decide +kernel
theorem dX7_callOff_5 : decode cX7_callOff 5 = .ok (.iload_n 1, 1) := by decide +kernel
theorem dX7_callOff_6 : decode cX7_callOff 6 = .ok (.invokevirtual 67, 3) := by decide +kernel
theorem dX7_callOff_9 : decode cX7_callOff 9 = .ok (.invokevirtual 48, 3) := by decide +kernel
theorem dX7_callOff_12 : decode cX7_callOff 12 = .ok (.ireturn, 1) := by decide +kernel
theorem dX7_settle_0 : decode cX7_settle 0 = .ok (.aload_n 0, 1) := by decide +kernel
theorem dX7_settle_1 : decode cX7_settle 1 = .ok (.aload_n 0, 1) := by decide +kernel
theorem dX7_settle_2 : decode cX7_settle 2 = .ok (.invokevirtual 40, 3) := by decide +kernel
theorem dX7_settle_5 : decode cX7_settle 5 = .ok (.iload_n 1, 1) := by decide +kernel
theorem dX7_settle_6 : decode cX7_settle 6 = .ok (.invokevirtual 70, 3) := by decide +kernel
theorem dX7_settle_9 : decode cX7_settle 9 = .ok (.invokevirtual 48, 3) := by decide +kernel
theorem dX7_settle_12 : decode cX7_settle 12 = .ok (.ireturn, 1) := by decide +kernel
theorem dX7_shipOf_0 : decode cX7_shipOf 0 = .ok (.aload_n 0, 1) := by decide +kernel
theorem dX7_shipOf_1 : decode cX7_shipOf 1 = .ok (.getfield 10, 3) := by decide +kernel
theorem dX7_shipOf_4 : decode cX7_shipOf 4 = .ok (.iload_n 1, 1) := by decide +kernel
theorem dX7_shipOf_5 : decode cX7_shipOf 5 = .ok (.invokevirtual 73, 3) := by decide +kernel
theorem dX7_shipOf_8 : decode cX7_shipOf 8 = .ok (.ifCond .ne 6, 3) := by decide +kernel
theorem dX7_shipOf_11 : decode cX7_shipOf 11 = .ok (.ldc 77, 2) := by decide +kernel
theorem dX7_shipOf_13 : decode cX7_shipOf 13 = .ok (.ireturn, 1) := by decide +kernel
theorem dX7_shipOf_14 : decode cX7_shipOf 14 = .ok (.aload_n 0, 1) := by decide +kernel
theorem dX7_shipOf_15 : decode cX7_shipOf 15 = .ok (.getfield 10, 3) := by decide +kernel
theorem dX7_shipOf_18 : decode cX7_shipOf 18 = .ok (.getfield 78, 3) := by decide +kernel
theorem dX7_shipOf_21 : decode cX7_shipOf 21 = .ok (.iload_n 1, 1) := by decide +kernel
theorem dX7_shipOf_22 : decode cX7_shipOf 22 = .ok (.aaload, 1) := by decide +kernel
theorem dX7_shipOf_23 : decode cX7_shipOf 23 = .ok (.astore_n 3, 1) := by decide +kernel
theorem dX7_shipOf_24 : decode cX7_shipOf 24 = .ok (.iload_n 2, 1) := by decide +kernel
theorem dX7_shipOf_25 : decode cX7_shipOf 25 = .ok (.tableswitch 132 0 9 #[55, 60, 65, 70, 82, 94, 99, 104, 109, 117], 55) := by decide +kernel
theorem dX7_shipOf_80 : decode cX7_shipOf 80 = .ok (.aload_n 3, 1) := by decide +kernel
theorem dX7_shipOf_81 : decode cX7_shipOf 81 = .ok (.getfield 82, 3) := by decide +kernel
theorem dX7_shipOf_84 : decode cX7_shipOf 84 = .ok (.ireturn, 1) := by decide +kernel
theorem dX7_shipOf_85 : decode cX7_shipOf 85 = .ok (.aload_n 3, 1) := by decide +kernel
theorem dX7_shipOf_86 : decode cX7_shipOf 86 = .ok (.getfield 88, 3) := by decide +kernel
theorem dX7_shipOf_89 : decode cX7_shipOf 89 = .ok (.ireturn, 1) := by decide +kernel
theorem dX7_shipOf_90 : decode cX7_shipOf 90 = .ok (.aload_n 3, 1) := by decide +kernel
theorem dX7_shipOf_91 : decode cX7_shipOf 91 = .ok (.getfield 91, 3) := by decide +kernel
theorem dX7_shipOf_94 : decode cX7_shipOf 94 = .ok (.ireturn, 1) := by decide +kernel
theorem dX7_shipOf_95 : decode cX7_shipOf 95 = .ok (.aload_n 0, 1) := by decide +kernel
theorem dX7_shipOf_96 : decode cX7_shipOf 96 = .ok (.getfield 10, 3) := by decide +kernel
theorem dX7_shipOf_99 : decode cX7_shipOf 99 = .ok (.iload_n 1, 1) := by decide +kernel
theorem dX7_shipOf_100 : decode cX7_shipOf 100 = .ok (.invokevirtual 94, 3) := by decide +kernel
theorem dX7_shipOf_103 : decode cX7_shipOf 103 = .ok (.getfield 98, 3) := by decide +kernel
theorem dX7_shipOf_106 : decode cX7_shipOf 106 = .ok (.ireturn, 1) := by decide +kernel
theorem dX7_shipOf_107 : decode cX7_shipOf 107 = .ok (.aload_n 0, 1) := by decide +kernel
theorem dX7_shipOf_108 : decode cX7_shipOf 108 = .ok (.getfield 10, 3) := by decide +kernel
theorem dX7_shipOf_111 : decode cX7_shipOf 111 = .ok (.iload_n 1, 1) := by decide +kernel
theorem dX7_shipOf_112 : decode cX7_shipOf 112 = .ok (.invokevirtual 94, 3) := by decide +kernel
theorem dX7_shipOf_115 : decode cX7_shipOf 115 = .ok (.getfield 103, 3) := by decide +kernel
theorem dX7_shipOf_118 : decode cX7_shipOf 118 = .ok (.ireturn, 1) := by decide +kernel
theorem dX7_shipOf_119 : decode cX7_shipOf 119 = .ok (.aload_n 3, 1) := by decide +kernel
theorem dX7_shipOf_120 : decode cX7_shipOf 120 = .ok (.getfield 106, 3) := by decide +kernel
theorem dX7_shipOf_123 : decode cX7_shipOf 123 = .ok (.ireturn, 1) := by decide +kernel
theorem dX7_shipOf_124 : decode cX7_shipOf 124 = .ok (.aload_n 3, 1) := by decide +kernel
theorem dX7_shipOf_125 : decode cX7_shipOf 125 = .ok (.getfield 109, 3) := by decide +kernel
theorem dX7_shipOf_128 : decode cX7_shipOf 128 = .ok (.ireturn, 1) := by decide +kernel
theorem dX7_shipOf_129 : decode cX7_shipOf 129 = .ok (.aload_n 3, 1) := by decide +kernel
theorem dX7_shipOf_130 : decode cX7_shipOf 130 = .ok (.getfield 112, 3) := by decide +kernel
theorem dX7_shipOf_133 : decode cX7_shipOf 133 = .ok (.ireturn, 1) := by decide +kernel
theorem dX7_shipOf_134 : decode cX7_shipOf 134 = .ok (.aload_n 3, 1) := by decide +kernel
theorem dX7_shipOf_135 : decode cX7_shipOf 135 = .ok (.getfield 115, 3) := by decide +kernel
theorem dX7_shipOf_138 : decode cX7_shipOf 138 = .ok (.ldc 118, 2) := by decide +kernel
theorem dX7_shipOf_140 : decode cX7_shipOf 140 = .ok (.iadd, 1) := by decide +kernel
theorem dX7_shipOf_141 : decode cX7_shipOf 141 = .ok (.ireturn, 1) := by decide +kernel
theorem dX7_shipOf_142 : decode cX7_shipOf 142 = .ok (.aload_n 0, 1) := by decide +kernel
theorem dX7_shipOf_143 : decode cX7_shipOf 143 = .ok (.getfield 10, 3) := by decide +kernel
theorem dX7_shipOf_146 : decode cX7_shipOf 146 = .ok (.iload_n 1, 1) := by decide +kernel
theorem dX7_shipOf_147 : decode cX7_shipOf 147 = .ok (.invokevirtual 94, 3) := by decide +kernel
theorem dX7_shipOf_150 : decode cX7_shipOf 150 = .ok (.getfield 119, 3) := by decide +kernel
theorem dX7_shipOf_153 : decode cX7_shipOf 153 = .ok (.ldc 118, 2) := by decide +kernel
theorem dX7_shipOf_155 : decode cX7_shipOf 155 = .ok (.iadd, 1) := by decide +kernel
theorem dX7_shipOf_156 : decode cX7_shipOf 156 = .ok (.ireturn, 1) := by decide +kernel
theorem dX7_shipOf_157 : decode cX7_shipOf 157 = .ok (.ldc 77, 2) := by decide +kernel
theorem dX7_shipOf_159 : decode cX7_shipOf 159 = .ok (.ireturn, 1) := by decide +kernel
theorem dX7_cargoOf_0 : decode cX7_cargoOf 0 = .ok (.aload_n 0, 1) := by decide +kernel
theorem dX7_cargoOf_1 : decode cX7_cargoOf 1 = .ok (.getfield 10, 3) := by decide +kernel
theorem dX7_cargoOf_4 : decode cX7_cargoOf 4 = .ok (.iload_n 1, 1) := by decide +kernel
theorem dX7_cargoOf_5 : decode cX7_cargoOf 5 = .ok (.invokevirtual 122, 3) := by decide +kernel
theorem dX7_cargoOf_8 : decode cX7_cargoOf 8 = .ok (.ifCond .ne 6, 3) := by decide +kernel
theorem dX7_cargoOf_11 : decode cX7_cargoOf 11 = .ok (.ldc 77, 2) := by decide +kernel
theorem dX7_cargoOf_13 : decode cX7_cargoOf 13 = .ok (.ireturn, 1) := by decide +kernel
theorem dX7_cargoOf_14 : decode cX7_cargoOf 14 = .ok (.aload_n 0, 1) := by decide +kernel
theorem dX7_cargoOf_15 : decode cX7_cargoOf 15 = .ok (.getfield 10, 3) := by decide +kernel
theorem dX7_cargoOf_18 : decode cX7_cargoOf 18 = .ok (.getfield 125, 3) := by decide +kernel
theorem dX7_cargoOf_21 : decode cX7_cargoOf 21 = .ok (.iload_n 1, 1) := by decide +kernel
theorem dX7_cargoOf_22 : decode cX7_cargoOf 22 = .ok (.aaload, 1) := by decide +kernel
theorem dX7_cargoOf_23 : decode cX7_cargoOf 23 = .ok (.astore_n 3, 1) := by decide +kernel
theorem dX7_cargoOf_24 : decode cX7_cargoOf 24 = .ok (.iload_n 2, 1) := by decide +kernel
theorem dX7_cargoOf_25 : decode cX7_cargoOf 25 = .ok (.tableswitch 100 0 7 #[47, 52, 57, 62, 67, 72, 77, 82], 47) := by decide +kernel
theorem dX7_cargoOf_72 : decode cX7_cargoOf 72 = .ok (.aload_n 3, 1) := by decide +kernel
theorem dX7_cargoOf_73 : decode cX7_cargoOf 73 = .ok (.getfield 129, 3) := by decide +kernel
theorem dX7_cargoOf_76 : decode cX7_cargoOf 76 = .ok (.ireturn, 1) := by decide +kernel
theorem dX7_cargoOf_77 : decode cX7_cargoOf 77 = .ok (.aload_n 3, 1) := by decide +kernel
theorem dX7_cargoOf_78 : decode cX7_cargoOf 78 = .ok (.getfield 134, 3) := by decide +kernel
theorem dX7_cargoOf_81 : decode cX7_cargoOf 81 = .ok (.ireturn, 1) := by decide +kernel
theorem dX7_cargoOf_82 : decode cX7_cargoOf 82 = .ok (.aload_n 3, 1) := by decide +kernel
theorem dX7_cargoOf_83 : decode cX7_cargoOf 83 = .ok (.getfield 137, 3) := by decide +kernel
theorem dX7_cargoOf_86 : decode cX7_cargoOf 86 = .ok (.ireturn, 1) := by decide +kernel
theorem dX7_cargoOf_87 : decode cX7_cargoOf 87 = .ok (.aload_n 3, 1) := by decide +kernel
theorem dX7_cargoOf_88 : decode cX7_cargoOf 88 = .ok (.getfield 140, 3) := by decide +kernel
theorem dX7_cargoOf_91 : decode cX7_cargoOf 91 = .ok (.ireturn, 1) := by decide +kernel
theorem dX7_cargoOf_92 : decode cX7_cargoOf 92 = .ok (.aload_n 3, 1) := by decide +kernel
theorem dX7_cargoOf_93 : decode cX7_cargoOf 93 = .ok (.getfield 143, 3) := by decide +kernel
theorem dX7_cargoOf_96 : decode cX7_cargoOf 96 = .ok (.ireturn, 1) := by decide +kernel
theorem dX7_cargoOf_97 : decode cX7_cargoOf 97 = .ok (.aload_n 3, 1) := by decide +kernel
theorem dX7_cargoOf_98 : decode cX7_cargoOf 98 = .ok (.getfield 146, 3) := by decide +kernel
theorem dX7_cargoOf_101 : decode cX7_cargoOf 101 = .ok (.ireturn, 1) := by decide +kernel
theorem dX7_cargoOf_102 : decode cX7_cargoOf 102 = .ok (.aload_n 3, 1) := by decide +kernel
theorem dX7_cargoOf_103 : decode cX7_cargoOf 103 = .ok (.getfield 149, 3) := by decide +kernel
theorem dX7_cargoOf_106 : decode cX7_cargoOf 106 = .ok (.ireturn, 1) := by decide +kernel
theorem dX7_cargoOf_107 : decode cX7_cargoOf 107 = .ok (.aload_n 3, 1) := by decide +kernel
theorem dX7_cargoOf_108 : decode cX7_cargoOf 108 = .ok (.getfield 149, 3) := by decide +kernel
theorem dX7_cargoOf_111 : decode cX7_cargoOf 111 = .ok (.iconst 1, 1) := by decide +kernel
theorem dX7_cargoOf_112 : decode cX7_cargoOf 112 = .ok (.if_icmp .ne 10, 3) := by decide +kernel
theorem dX7_cargoOf_115 : decode cX7_cargoOf 115 = .ok (.aload_n 3, 1) := by decide +kernel
theorem dX7_cargoOf_116 : decode cX7_cargoOf 116 = .ok (.getfield 152, 3) := by decide +kernel
theorem dX7_cargoOf_119 : decode cX7_cargoOf 119 = .ok (.goto 5, 3) := by decide +kernel
theorem dX7_cargoOf_122 : decode cX7_cargoOf 122 = .ok (.ldc 155, 2) := by decide +kernel
theorem dX7_cargoOf_124 : decode cX7_cargoOf 124 = .ok (.ireturn, 1) := by decide +kernel
theorem dX7_cargoOf_125 : decode cX7_cargoOf 125 = .ok (.ldc 77, 2) := by decide +kernel
theorem dX7_cargoOf_127 : decode cX7_cargoOf 127 = .ok (.ireturn, 1) := by decide +kernel
theorem dX7_fixtureOf_0 : decode cX7_fixtureOf 0 = .ok (.aload_n 0, 1) := by decide +kernel
theorem dX7_fixtureOf_1 : decode cX7_fixtureOf 1 = .ok (.getfield 10, 3) := by decide +kernel
theorem dX7_fixtureOf_4 : decode cX7_fixtureOf 4 = .ok (.iload_n 1, 1) := by decide +kernel
theorem dX7_fixtureOf_5 : decode cX7_fixtureOf 5 = .ok (.invokevirtual 73, 3) := by decide +kernel
theorem dX7_fixtureOf_8 : decode cX7_fixtureOf 8 = .ok (.ifCond .eq 16, 3) := by decide +kernel
theorem dX7_fixtureOf_11 : decode cX7_fixtureOf 11 = .ok (.iload_n 2, 1) := by decide +kernel
theorem dX7_fixtureOf_12 : decode cX7_fixtureOf 12 = .ok (.ifCond .lt 12, 3) := by decide +kernel
theorem dX7_fixtureOf_15 : decode cX7_fixtureOf 15 = .ok (.iload_n 3, 1) := by decide +kernel
theorem dX7_fixtureOf_16 : decode cX7_fixtureOf 16 = .ok (.iconst 0, 1) := by decide +kernel
theorem dX7_fixtureOf_17 : decode cX7_fixtureOf 17 = .ok (.iconst 5, 1) := by decide +kernel
theorem dX7_fixtureOf_18 : decode cX7_fixtureOf 18 = .ok (.invokestatic 156, 3) := by decide +kernel
theorem dX7_fixtureOf_21 : decode cX7_fixtureOf 21 = .ok (.ifCond .ne 6, 3) := by decide +kernel
theorem dX7_fixtureOf_24 : decode cX7_fixtureOf 24 = .ok (.ldc 77, 2) := by decide +kernel
theorem dX7_fixtureOf_26 : decode cX7_fixtureOf 26 = .ok (.ireturn, 1) := by decide +kernel
theorem dX7_fixtureOf_27 : decode cX7_fixtureOf 27 = .ok (.aload_n 0, 1) := by decide +kernel
theorem dX7_fixtureOf_28 : decode cX7_fixtureOf 28 = .ok (.getfield 10, 3) := by decide +kernel
theorem dX7_fixtureOf_31 : decode cX7_fixtureOf 31 = .ok (.getfield 78, 3) := by decide +kernel
theorem dX7_fixtureOf_34 : decode cX7_fixtureOf 34 = .ok (.iload_n 1, 1) := by decide +kernel
theorem dX7_fixtureOf_35 : decode cX7_fixtureOf 35 = .ok (.aaload, 1) := by decide +kernel
theorem dX7_fixtureOf_36 : decode cX7_fixtureOf 36 = .ok (.astore 4, 2) := by decide +kernel
theorem dX7_fixtureOf_38 : decode cX7_fixtureOf 38 = .ok (.iload_n 2, 1) := by decide +kernel
theorem dX7_fixtureOf_39 : decode cX7_fixtureOf 39 = .ok (.aload 4, 2) := by decide +kernel
theorem dX7_fixtureOf_41 : decode cX7_fixtureOf 41 = .ok (.getfield 112, 3) := by decide +kernel
theorem dX7_fixtureOf_44 : decode cX7_fixtureOf 44 = .ok (.if_icmp .lt 6, 3) := by decide +kernel
theorem dX7_fixtureOf_47 : decode cX7_fixtureOf 47 = .ok (.ldc 155, 2) := by decide +kernel
theorem dX7_fixtureOf_49 : decode cX7_fixtureOf 49 = .ok (.ireturn, 1) := by decide +kernel
theorem dX7_fixtureOf_50 : decode cX7_fixtureOf 50 = .ok (.aload_n 0, 1) := by decide +kernel
theorem dX7_fixtureOf_51 : decode cX7_fixtureOf 51 = .ok (.getfield 10, 3) := by decide +kernel
theorem dX7_fixtureOf_54 : decode cX7_fixtureOf 54 = .ok (.iload_n 1, 1) := by decide +kernel
theorem dX7_fixtureOf_55 : decode cX7_fixtureOf 55 = .ok (.iload_n 2, 1) := by decide +kernel
theorem dX7_fixtureOf_56 : decode cX7_fixtureOf 56 = .ok (.iconst 1, 1) := by decide +kernel
theorem dX7_fixtureOf_57 : decode cX7_fixtureOf 57 = .ok (.iadd, 1) := by decide +kernel
theorem dX7_fixtureOf_58 : decode cX7_fixtureOf 58 = .ok (.invokevirtual 160, 3) := by decide +kernel
theorem dX7_fixtureOf_61 : decode cX7_fixtureOf 61 = .ok (.astore 5, 2) := by decide +kernel
theorem dX7_fixtureOf_63 : decode cX7_fixtureOf 63 = .ok (.iload_n 3, 1) := by decide +kernel
theorem dX7_fixtureOf_64 : decode cX7_fixtureOf 64 = .ok (.tableswitch 71 0 4 #[36, 44, 50, 56, 62], 36) := by decide +kernel
theorem dX7_fixtureOf_100 : decode cX7_fixtureOf 100 = .ok (.aload 4, 2) := by decide +kernel
theorem dX7_fixtureOf_102 : decode cX7_fixtureOf 102 = .ok (.getfield 164, 3) := by decide +kernel
theorem dX7_fixtureOf_105 : decode cX7_fixtureOf 105 = .ok (.iload_n 2, 1) := by decide +kernel
theorem dX7_fixtureOf_106 : decode cX7_fixtureOf 106 = .ok (.iaload, 1) := by decide +kernel
theorem dX7_fixtureOf_107 : decode cX7_fixtureOf 107 = .ok (.ireturn, 1) := by decide +kernel
theorem dX7_fixtureOf_108 : decode cX7_fixtureOf 108 = .ok (.aload 5, 2) := by decide +kernel
theorem dX7_fixtureOf_110 : decode cX7_fixtureOf 110 = .ok (.getfield 168, 3) := by decide +kernel
theorem dX7_fixtureOf_113 : decode cX7_fixtureOf 113 = .ok (.ireturn, 1) := by decide +kernel
theorem dX7_fixtureOf_114 : decode cX7_fixtureOf 114 = .ok (.aload 5, 2) := by decide +kernel
theorem dX7_fixtureOf_116 : decode cX7_fixtureOf 116 = .ok (.getfield 171, 3) := by decide +kernel
theorem dX7_fixtureOf_119 : decode cX7_fixtureOf 119 = .ok (.ireturn, 1) := by decide +kernel
theorem dX7_fixtureOf_120 : decode cX7_fixtureOf 120 = .ok (.aload 5, 2) := by decide +kernel
theorem dX7_fixtureOf_122 : decode cX7_fixtureOf 122 = .ok (.getfield 103, 3) := by decide +kernel
theorem dX7_fixtureOf_125 : decode cX7_fixtureOf 125 = .ok (.ireturn, 1) := by decide +kernel
theorem dX7_fixtureOf_126 : decode cX7_fixtureOf 126 = .ok (.aload 5, 2) := by decide +kernel
theorem dX7_fixtureOf_128 : decode cX7_fixtureOf 128 = .ok (.getfield 174, 3) := by decide +kernel
theorem dX7_fixtureOf_131 : decode cX7_fixtureOf 131 = .ok (.ldc 118, 2) := by decide +kernel
theorem dX7_fixtureOf_133 : decode cX7_fixtureOf 133 = .ok (.iadd, 1) := by decide +kernel
theorem dX7_fixtureOf_134 : decode cX7_fixtureOf 134 = .ok (.ireturn, 1) := by decide +kernel
theorem dX7_fixtureOf_135 : decode cX7_fixtureOf 135 = .ok (.aload 5, 2) := by decide +kernel
theorem dX7_fixtureOf_137 : decode cX7_fixtureOf 137 = .ok (.getfield 177, 3) := by decide +kernel
theorem dX7_fixtureOf_140 : decode cX7_fixtureOf 140 = .ok (.ireturn, 1) := by decide +kernel
theorem dX7_distance_0 : decode cX7_distance 0 = .ok (.iload_n 1, 1) := by decide +kernel
theorem dX7_distance_1 : decode cX7_distance 1 = .ok (.invokestatic 180, 3) := by decide +kernel
theorem dX7_distance_4 : decode cX7_distance 4 = .ok (.ifCond .eq 10, 3) := by decide +kernel
theorem dX7_distance_7 : decode cX7_distance 7 = .ok (.iload_n 2, 1) := by decide +kernel
theorem dX7_distance_8 : decode cX7_distance 8 = .ok (.invokestatic 180, 3) := by decide +kernel
theorem dX7_distance_11 : decode cX7_distance 11 = .ok (.ifCond .ne 6, 3) := by decide +kernel
theorem dX7_distance_14 : decode cX7_distance 14 = .ok (.ldc 77, 2) := by decide +kernel
theorem dX7_distance_16 : decode cX7_distance 16 = .ok (.ireturn, 1) := by decide +kernel
theorem dX7_distance_17 : decode cX7_distance 17 = .ok (.aload_n 0, 1) := by decide +kernel
theorem dX7_distance_18 : decode cX7_distance 18 = .ok (.getfield 10, 3) := by decide +kernel
theorem dX7_distance_21 : decode cX7_distance 21 = .ok (.iload_n 1, 1) := by decide +kernel
theorem dX7_distance_22 : decode cX7_distance 22 = .ok (.iload_n 2, 1) := by decide +kernel
theorem dX7_distance_23 : decode cX7_distance 23 = .ok (.invokevirtual 183, 3) := by decide +kernel
theorem dX7_distance_26 : decode cX7_distance 26 = .ok (.ireturn, 1) := by decide +kernel
theorem dX7_voyage_0 : decode cX7_voyage 0 = .ok (.aload_n 0, 1) := by decide +kernel
theorem dX7_voyage_1 : decode cX7_voyage 1 = .ok (.getfield 10, 3) := by decide +kernel
theorem dX7_voyage_4 : decode cX7_voyage 4 = .ok (.iload_n 1, 1) := by decide +kernel
theorem dX7_voyage_5 : decode cX7_voyage 5 = .ok (.invokevirtual 73, 3) := by decide +kernel
theorem dX7_voyage_8 : decode cX7_voyage 8 = .ok (.ifCond .eq 14, 3) := by decide +kernel
theorem dX7_voyage_11 : decode cX7_voyage 11 = .ok (.aload_n 0, 1) := by decide +kernel
theorem dX7_voyage_12 : decode cX7_voyage 12 = .ok (.getfield 10, 3) := by decide +kernel
theorem dX7_voyage_15 : decode cX7_voyage 15 = .ok (.iload_n 2, 1) := by decide +kernel
theorem dX7_voyage_16 : decode cX7_voyage 16 = .ok (.invokevirtual 122, 3) := by decide +kernel
theorem dX7_voyage_19 : decode cX7_voyage 19 = .ok (.ifCond .ne 6, 3) := by decide +kernel
theorem dX7_voyage_22 : decode cX7_voyage 22 = .ok (.ldc 77, 2) := by decide +kernel
theorem dX7_voyage_24 : decode cX7_voyage 24 = .ok (.ireturn, 1) := by decide +kernel
theorem dX7_voyage_25 : decode cX7_voyage 25 = .ok (.aload_n 0, 1) := by decide +kernel
theorem dX7_voyage_26 : decode cX7_voyage 26 = .ok (.getfield 10, 3) := by decide +kernel
theorem dX7_voyage_29 : decode cX7_voyage 29 = .ok (.iload_n 1, 1) := by decide +kernel
theorem dX7_voyage_30 : decode cX7_voyage 30 = .ok (.iload_n 2, 1) := by decide +kernel
theorem dX7_voyage_31 : decode cX7_voyage 31 = .ok (.invokevirtual 186, 3) := by decide +kernel
theorem dX7_voyage_34 : decode cX7_voyage 34 = .ok (.istore 4, 2) := by decide +kernel
theorem dX7_voyage_36 : decode cX7_voyage 36 = .ok (.aload_n 0, 1) := by decide +kernel
theorem dX7_voyage_37 : decode cX7_voyage 37 = .ok (.getfield 10, 3) := by decide +kernel
theorem dX7_voyage_40 : decode cX7_voyage 40 = .ok (.getfield 189, 3) := by decide +kernel
theorem dX7_voyage_43 : decode cX7_voyage 43 = .ok (.astore 5, 2) := by decide +kernel
theorem dX7_voyage_45 : decode cX7_voyage 45 = .ok (.iload_n 3, 1) := by decide +kernel
theorem dX7_voyage_46 : decode cX7_voyage 46 = .ok (.tableswitch 64 0 4 #[34, 37, 43, 49, 58], 34) := by decide +kernel
theorem dX7_voyage_80 : decode cX7_voyage 80 = .ok (.iload 4, 2) := by decide +kernel
theorem dX7_voyage_82 : decode cX7_voyage 82 = .ok (.ireturn, 1) := by decide +kernel
theorem dX7_voyage_83 : decode cX7_voyage 83 = .ok (.aload 5, 2) := by decide +kernel
theorem dX7_voyage_85 : decode cX7_voyage 85 = .ok (.getfield 171, 3) := by decide +kernel
theorem dX7_voyage_88 : decode cX7_voyage 88 = .ok (.ireturn, 1) := by decide +kernel
theorem dX7_voyage_89 : decode cX7_voyage 89 = .ok (.aload 5, 2) := by decide +kernel
theorem dX7_voyage_91 : decode cX7_voyage 91 = .ok (.getfield 193, 3) := by decide +kernel
theorem dX7_voyage_94 : decode cX7_voyage 94 = .ok (.ireturn, 1) := by decide +kernel
theorem dX7_voyage_95 : decode cX7_voyage 95 = .ok (.aload 5, 2) := by decide +kernel
theorem dX7_voyage_97 : decode cX7_voyage 97 = .ok (.getfield 174, 3) := by decide +kernel
theorem dX7_voyage_100 : decode cX7_voyage 100 = .ok (.ldc 118, 2) := by decide +kernel
theorem dX7_voyage_102 : decode cX7_voyage 102 = .ok (.iadd, 1) := by decide +kernel
theorem dX7_voyage_103 : decode cX7_voyage 103 = .ok (.ireturn, 1) := by decide +kernel
theorem dX7_voyage_104 : decode cX7_voyage 104 = .ok (.aload 5, 2) := by decide +kernel
theorem dX7_voyage_106 : decode cX7_voyage 106 = .ok (.invokevirtual 196, 3) := by decide +kernel
theorem dX7_voyage_109 : decode cX7_voyage 109 = .ok (.ireturn, 1) := by decide +kernel
theorem dX7_voyage_110 : decode cX7_voyage 110 = .ok (.ldc 77, 2) := by decide +kernel
theorem dX7_voyage_112 : decode cX7_voyage 112 = .ok (.ireturn, 1) := by decide +kernel
theorem dX7_bestCargo_0 : decode cX7_bestCargo 0 = .ok (.aload_n 0, 1) := by decide +kernel
theorem dX7_bestCargo_1 : decode cX7_bestCargo 1 = .ok (.getfield 10, 3) := by decide +kernel
theorem dX7_bestCargo_4 : decode cX7_bestCargo 4 = .ok (.iload_n 1, 1) := by decide +kernel
theorem dX7_bestCargo_5 : decode cX7_bestCargo 5 = .ok (.invokevirtual 73, 3) := by decide +kernel
theorem dX7_bestCargo_8 : decode cX7_bestCargo 8 = .ok (.ifCond .ne 6, 3) := by decide +kernel
theorem dX7_bestCargo_11 : decode cX7_bestCargo 11 = .ok (.ldc 77, 2) := by decide +kernel
theorem dX7_bestCargo_13 : decode cX7_bestCargo 13 = .ok (.ireturn, 1) := by decide +kernel
theorem dX7_bestCargo_14 : decode cX7_bestCargo 14 = .ok (.aload_n 0, 1) := by decide +kernel
theorem dX7_bestCargo_15 : decode cX7_bestCargo 15 = .ok (.getfield 10, 3) := by decide +kernel
theorem dX7_bestCargo_18 : decode cX7_bestCargo 18 = .ok (.iload_n 1, 1) := by decide +kernel
theorem dX7_bestCargo_19 : decode cX7_bestCargo 19 = .ok (.iload_n 1, 1) := by decide +kernel
theorem dX7_bestCargo_20 : decode cX7_bestCargo 20 = .ok (.iconst 1, 1) := by decide +kernel
theorem dX7_bestCargo_21 : decode cX7_bestCargo 21 = .ok (.iadd, 1) := by decide +kernel
theorem dX7_bestCargo_22 : decode cX7_bestCargo 22 = .ok (.iconst 0, 1) := by decide +kernel
theorem dX7_bestCargo_23 : decode cX7_bestCargo 23 = .ok (.aload_n 0, 1) := by decide +kernel
theorem dX7_bestCargo_24 : decode cX7_bestCargo 24 = .ok (.getfield 10, 3) := by decide +kernel
theorem dX7_bestCargo_27 : decode cX7_bestCargo 27 = .ok (.getfield 200, 3) := by decide +kernel
theorem dX7_bestCargo_30 : decode cX7_bestCargo 30 = .ok (.invokevirtual 203, 3) := by decide +kernel
theorem dX7_bestCargo_33 : decode cX7_bestCargo 33 = .ok (.ifCond .eq 13, 3) := by decide +kernel
theorem dX7_bestCargo_36 : decode cX7_bestCargo 36 = .ok (.aload_n 0, 1) := by decide +kernel
theorem dX7_bestCargo_37 : decode cX7_bestCargo 37 = .ok (.getfield 10, 3) := by decide +kernel
theorem dX7_bestCargo_40 : decode cX7_bestCargo 40 = .ok (.getfield 207, 3) := by decide +kernel
theorem dX7_bestCargo_43 : decode cX7_bestCargo 43 = .ok (.goto 5, 3) := by decide +kernel
theorem dX7_bestCargo_46 : decode cX7_bestCargo 46 = .ok (.ldc 155, 2) := by decide +kernel
theorem dX7_bestCargo_48 : decode cX7_bestCargo 48 = .ok (.ireturn, 1) := by decide +kernel
theorem dX7_plan_0 : decode cX7_plan 0 = .ok (.iload_n 1, 1) := by decide +kernel
theorem dX7_plan_1 : decode cX7_plan 1 = .ok (.iconst 0, 1) := by decide +kernel
theorem dX7_plan_2 : decode cX7_plan 2 = .ok (.iconst 3, 1) := by decide +kernel
theorem dX7_plan_3 : decode cX7_plan 3 = .ok (.invokestatic 156, 3) := by decide +kernel
theorem dX7_plan_6 : decode cX7_plan 6 = .ok (.ifCond .ne 6, 3) := by decide +kernel
theorem dX7_plan_9 : decode cX7_plan 9 = .ok (.ldc 77, 2) := by decide +kernel
theorem dX7_plan_11 : decode cX7_plan 11 = .ok (.ireturn, 1) := by decide +kernel
theorem dX7_plan_12 : decode cX7_plan 12 = .ok (.aload_n 0, 1) := by decide +kernel
theorem dX7_plan_13 : decode cX7_plan 13 = .ok (.invokevirtual 40, 3) := by decide +kernel
theorem dX7_plan_16 : decode cX7_plan 16 = .ok (.pop, 1) := by decide +kernel
theorem dX7_plan_17 : decode cX7_plan 17 = .ok (.iconst 0, 1) := by decide +kernel
theorem dX7_plan_18 : decode cX7_plan 18 = .ok (.istore_n 2, 1) := by decide +kernel
theorem dX7_plan_19 : decode cX7_plan 19 = .ok (.iconst 0, 1) := by decide +kernel
theorem dX7_plan_20 : decode cX7_plan 20 = .ok (.istore_n 3, 1) := by decide +kernel
theorem dX7_plan_21 : decode cX7_plan 21 = .ok (.lconst 0, 1) := by decide +kernel
theorem dX7_plan_22 : decode cX7_plan 22 = .ok (.lstore 4, 2) := by decide +kernel
theorem dX7_plan_24 : decode cX7_plan 24 = .ok (.iload_n 2, 1) := by decide +kernel
theorem dX7_plan_25 : decode cX7_plan 25 = .ok (.bipush 10, 2) := by decide +kernel
theorem dX7_plan_27 : decode cX7_plan 27 = .ok (.if_icmp .ge 70, 3) := by decide +kernel
theorem dX7_plan_30 : decode cX7_plan 30 = .ok (.aload_n 0, 1) := by decide +kernel
theorem dX7_plan_31 : decode cX7_plan 31 = .ok (.getfield 16, 3) := by decide +kernel
theorem dX7_plan_34 : decode cX7_plan 34 = .ok (.invokevirtual 217, 3) := by decide +kernel
theorem dX7_plan_37 : decode cX7_plan 37 = .ok (.ifCond .eq 60, 3) := by decide +kernel
theorem dX7_plan_40 : decode cX7_plan 40 = .ok (.iinc 2 1, 3) := by decide +kernel
theorem dX7_plan_43 : decode cX7_plan 43 = .ok (.iload_n 3, 1) := by decide +kernel
theorem dX7_plan_44 : decode cX7_plan 44 = .ok (.aload_n 0, 1) := by decide +kernel
theorem dX7_plan_45 : decode cX7_plan 45 = .ok (.getfield 16, 3) := by decide +kernel
theorem dX7_plan_48 : decode cX7_plan 48 = .ok (.getfield 221, 3) := by decide +kernel
theorem dX7_plan_51 : decode cX7_plan 51 = .ok (.iadd, 1) := by decide +kernel
theorem dX7_plan_52 : decode cX7_plan 52 = .ok (.istore_n 3, 1) := by decide +kernel
theorem dX7_plan_53 : decode cX7_plan 53 = .ok (.lload 4, 2) := by decide +kernel
theorem dX7_plan_55 : decode cX7_plan 55 = .ok (.aload_n 0, 1) := by decide +kernel
theorem dX7_plan_56 : decode cX7_plan 56 = .ok (.getfield 16, 3) := by decide +kernel
theorem dX7_plan_59 : decode cX7_plan 59 = .ok (.aload_n 0, 1) := by decide +kernel
theorem dX7_plan_60 : decode cX7_plan 60 = .ok (.getfield 16, 3) := by decide +kernel
theorem dX7_plan_63 : decode cX7_plan 63 = .ok (.getfield 207, 3) := by decide +kernel
theorem dX7_plan_66 : decode cX7_plan 66 = .ok (.invokevirtual 224, 3) := by decide +kernel
theorem dX7_plan_69 : decode cX7_plan 69 = .ok (.lor, 1) := by decide +kernel
theorem dX7_plan_70 : decode cX7_plan 70 = .ok (.lstore 4, 2) := by decide +kernel
theorem dX7_plan_72 : decode cX7_plan 72 = .ok (.aload_n 0, 1) := by decide +kernel
theorem dX7_plan_73 : decode cX7_plan 73 = .ok (.getfield 16, 3) := by decide +kernel
theorem dX7_plan_76 : decode cX7_plan 76 = .ok (.aload_n 0, 1) := by decide +kernel
theorem dX7_plan_77 : decode cX7_plan 77 = .ok (.getfield 16, 3) := by decide +kernel
theorem dX7_plan_80 : decode cX7_plan 80 = .ok (.getfield 214, 3) := by decide +kernel
theorem dX7_plan_83 : decode cX7_plan 83 = .ok (.aload_n 0, 1) := by decide +kernel
theorem dX7_plan_84 : decode cX7_plan 84 = .ok (.getfield 16, 3) := by decide +kernel
theorem dX7_plan_87 : decode cX7_plan 87 = .ok (.getfield 207, 3) := by decide +kernel
theorem dX7_plan_90 : decode cX7_plan 90 = .ok (.invokevirtual 60, 3) := by decide +kernel
theorem dX7_plan_93 : decode cX7_plan 93 = .ok (.pop, 1) := by decide +kernel
theorem dX7_plan_94 : decode cX7_plan 94 = .ok (.goto (-70), 3) := by decide +kernel
theorem dX7_plan_97 : decode cX7_plan 97 = .ok (.iload_n 1, 1) := by decide +kernel
theorem dX7_plan_98 : decode cX7_plan 98 = .ok (.tableswitch 38 0 2 #[26, 28, 30], 26) := by decide +kernel
theorem dX7_plan_124 : decode cX7_plan 124 = .ok (.iload_n 2, 1) := by decide +kernel
theorem dX7_plan_125 : decode cX7_plan 125 = .ok (.ireturn, 1) := by decide +kernel
theorem dX7_plan_126 : decode cX7_plan 126 = .ok (.iload_n 3, 1) := by decide +kernel
theorem dX7_plan_127 : decode cX7_plan 127 = .ok (.ireturn, 1) := by decide +kernel
theorem dX7_plan_128 : decode cX7_plan 128 = .ok (.aload_n 0, 1) := by decide +kernel
theorem dX7_plan_129 : decode cX7_plan 129 = .ok (.getfield 16, 3) := by decide +kernel
theorem dX7_plan_132 : decode cX7_plan 132 = .ok (.invokevirtual 228, 3) := by decide +kernel
theorem dX7_plan_135 : decode cX7_plan 135 = .ok (.ireturn, 1) := by decide +kernel
theorem dX7_plan_136 : decode cX7_plan 136 = .ok (.lload 4, 2) := by decide +kernel
theorem dX7_plan_138 : decode cX7_plan 138 = .ok (.invokestatic 231, 3) := by decide +kernel
theorem dX7_plan_141 : decode cX7_plan 141 = .ok (.ireturn, 1) := by decide +kernel
theorem dX7_slack_0 : decode cX7_slack 0 = .ok (.aload_n 0, 1) := by decide +kernel
theorem dX7_slack_1 : decode cX7_slack 1 = .ok (.getfield 10, 3) := by decide +kernel
theorem dX7_slack_4 : decode cX7_slack 4 = .ok (.iload_n 1, 1) := by decide +kernel
theorem dX7_slack_5 : decode cX7_slack 5 = .ok (.invokevirtual 73, 3) := by decide +kernel
theorem dX7_slack_8 : decode cX7_slack 8 = .ok (.ifCond .eq 14, 3) := by decide +kernel
theorem dX7_slack_11 : decode cX7_slack 11 = .ok (.aload_n 0, 1) := by decide +kernel
theorem dX7_slack_12 : decode cX7_slack 12 = .ok (.getfield 10, 3) := by decide +kernel
theorem dX7_slack_15 : decode cX7_slack 15 = .ok (.iload_n 1, 1) := by decide +kernel
theorem dX7_slack_16 : decode cX7_slack 16 = .ok (.invokevirtual 237, 3) := by decide +kernel
theorem dX7_slack_19 : decode cX7_slack 19 = .ok (.goto 5, 3) := by decide +kernel
theorem dX7_slack_22 : decode cX7_slack 22 = .ok (.ldc 77, 2) := by decide +kernel
theorem dX7_slack_24 : decode cX7_slack 24 = .ok (.ireturn, 1) := by decide +kernel
theorem dX7_count_0 : decode cX7_count 0 = .ok (.iload_n 1, 1) := by decide +kernel
theorem dX7_count_1 : decode cX7_count 1 = .ok (.tableswitch 128 0 8 #[51, 59, 67, 76, 85, 96, 104, 112, 120], 51) := by decide +kernel
theorem dX7_count_52 : decode cX7_count 52 = .ok (.aload_n 0, 1) := by decide +kernel
theorem dX7_count_53 : decode cX7_count 53 = .ok (.getfield 10, 3) := by decide +kernel
theorem dX7_count_56 : decode cX7_count 56 = .ok (.getfield 211, 3) := by decide +kernel
theorem dX7_count_59 : decode cX7_count 59 = .ok (.ireturn, 1) := by decide +kernel
theorem dX7_count_60 : decode cX7_count 60 = .ok (.aload_n 0, 1) := by decide +kernel
theorem dX7_count_61 : decode cX7_count 61 = .ok (.getfield 10, 3) := by decide +kernel
theorem dX7_count_64 : decode cX7_count 64 = .ok (.getfield 200, 3) := by decide +kernel
theorem dX7_count_67 : decode cX7_count 67 = .ok (.ireturn, 1) := by decide +kernel
theorem dX7_count_68 : decode cX7_count 68 = .ok (.aload_n 0, 1) := by decide +kernel
theorem dX7_count_69 : decode cX7_count 69 = .ok (.getfield 10, 3) := by decide +kernel
theorem dX7_count_72 : decode cX7_count 72 = .ok (.iconst 0, 1) := by decide +kernel
theorem dX7_count_73 : decode cX7_count 73 = .ok (.invokevirtual 240, 3) := by decide +kernel
theorem dX7_count_76 : decode cX7_count 76 = .ok (.ireturn, 1) := by decide +kernel
theorem dX7_count_77 : decode cX7_count 77 = .ok (.aload_n 0, 1) := by decide +kernel
theorem dX7_count_78 : decode cX7_count 78 = .ok (.getfield 10, 3) := by decide +kernel
theorem dX7_count_81 : decode cX7_count 81 = .ok (.iconst 1, 1) := by decide +kernel
theorem dX7_count_82 : decode cX7_count 82 = .ok (.invokevirtual 240, 3) := by decide +kernel
theorem dX7_count_85 : decode cX7_count 85 = .ok (.ireturn, 1) := by decide +kernel
theorem dX7_count_86 : decode cX7_count 86 = .ok (.aload_n 0, 1) := by decide +kernel
theorem dX7_count_87 : decode cX7_count 87 = .ok (.getfield 10, 3) := by decide +kernel
theorem dX7_count_90 : decode cX7_count 90 = .ok (.invokevirtual 243, 3) := by decide +kernel
theorem dX7_count_93 : decode cX7_count 93 = .ok (.ldc 118, 2) := by decide +kernel
theorem dX7_count_95 : decode cX7_count 95 = .ok (.iadd, 1) := by decide +kernel
theorem dX7_count_96 : decode cX7_count 96 = .ok (.ireturn, 1) := by decide +kernel
theorem dX7_count_97 : decode cX7_count 97 = .ok (.aload_n 0, 1) := by decide +kernel
theorem dX7_count_98 : decode cX7_count 98 = .ok (.getfield 10, 3) := by decide +kernel
theorem dX7_count_101 : decode cX7_count 101 = .ok (.getfield 246, 3) := by decide +kernel
theorem dX7_count_104 : decode cX7_count 104 = .ok (.ireturn, 1) := by decide +kernel
theorem dX7_count_105 : decode cX7_count 105 = .ok (.aload_n 0, 1) := by decide +kernel
theorem dX7_count_106 : decode cX7_count 106 = .ok (.getfield 10, 3) := by decide +kernel
theorem dX7_count_109 : decode cX7_count 109 = .ok (.getfield 249, 3) := by decide +kernel
theorem dX7_count_112 : decode cX7_count 112 = .ok (.ireturn, 1) := by decide +kernel
theorem dX7_count_113 : decode cX7_count 113 = .ok (.aload_n 0, 1) := by decide +kernel
theorem dX7_count_114 : decode cX7_count 114 = .ok (.getfield 22, 3) := by decide +kernel
theorem dX7_count_117 : decode cX7_count 117 = .ok (.getfield 252, 3) := by decide +kernel
theorem dX7_count_120 : decode cX7_count 120 = .ok (.ireturn, 1) := by decide +kernel
theorem dX7_count_121 : decode cX7_count 121 = .ok (.aload_n 0, 1) := by decide +kernel
theorem dX7_count_122 : decode cX7_count 122 = .ok (.getfield 29, 3) := by decide +kernel
theorem dX7_count_125 : decode cX7_count 125 = .ok (.getfield 253, 3) := by decide +kernel
theorem dX7_count_128 : decode cX7_count 128 = .ok (.ireturn, 1) := by decide +kernel
theorem dX7_count_129 : decode cX7_count 129 = .ok (.ldc 77, 2) := by decide +kernel
theorem dX7_count_131 : decode cX7_count 131 = .ok (.ireturn, 1) := by decide +kernel
theorem dX7_undo_0 : decode cX7_undo 0 = .ok (.aload_n 0, 1) := by decide +kernel
theorem dX7_undo_1 : decode cX7_undo 1 = .ok (.getfield 22, 3) := by decide +kernel
theorem dX7_undo_4 : decode cX7_undo 4 = .ok (.aload_n 0, 1) := by decide +kernel
theorem dX7_undo_5 : decode cX7_undo 5 = .ok (.getfield 10, 3) := by decide +kernel
theorem dX7_undo_8 : decode cX7_undo 8 = .ok (.invokevirtual 256, 3) := by decide +kernel
theorem dX7_undo_11 : decode cX7_undo 11 = .ok (.ifCond .eq 13, 3) := by decide +kernel
theorem dX7_undo_14 : decode cX7_undo 14 = .ok (.aload_n 0, 1) := by decide +kernel
theorem dX7_undo_15 : decode cX7_undo 15 = .ok (.getfield 22, 3) := by decide +kernel
theorem dX7_undo_18 : decode cX7_undo 18 = .ok (.getfield 252, 3) := by decide +kernel
theorem dX7_undo_21 : decode cX7_undo 21 = .ok (.goto 5, 3) := by decide +kernel
theorem dX7_undo_24 : decode cX7_undo 24 = .ok (.ldc 210, 2) := by decide +kernel
theorem dX7_undo_26 : decode cX7_undo 26 = .ok (.ireturn, 1) := by decide +kernel
theorem dX7_freshTrial_0 : decode cX7_freshTrial 0 = .ok (.aload_n 0, 1) := by decide +kernel
theorem dX7_freshTrial_1 : decode cX7_freshTrial 1 = .ok (.getfield 16, 3) := by decide +kernel
theorem dX7_freshTrial_4 : decode cX7_freshTrial 4 = .ok (.aload_n 0, 1) := by decide +kernel
theorem dX7_freshTrial_5 : decode cX7_freshTrial 5 = .ok (.getfield 10, 3) := by decide +kernel
theorem dX7_freshTrial_8 : decode cX7_freshTrial 8 = .ok (.invokevirtual 280, 3) := by decide +kernel
theorem dX7_freshTrial_11 : decode cX7_freshTrial 11 = .ok (.aload_n 0, 1) := by decide +kernel
theorem dX7_freshTrial_12 : decode cX7_freshTrial 12 = .ok (.getfield 16, 3) := by decide +kernel
theorem dX7_freshTrial_15 : decode cX7_freshTrial 15 = .ok (.areturn, 1) := by decide +kernel
theorem dX7_keep_0 : decode cX7_keep 0 = .ok (.iload_n 1, 1) := by decide +kernel
theorem dX7_keep_1 : decode cX7_keep 1 = .ok (.invokestatic 284, 3) := by decide +kernel
theorem dX7_keep_4 : decode cX7_keep 4 = .ok (.ifCond .ne 25, 3) := by decide +kernel
theorem dX7_keep_7 : decode cX7_keep 7 = .ok (.aload_n 0, 1) := by decide +kernel
theorem dX7_keep_8 : decode cX7_keep 8 = .ok (.getfield 22, 3) := by decide +kernel
theorem dX7_keep_11 : decode cX7_keep 11 = .ok (.aload_n 0, 1) := by decide +kernel
theorem dX7_keep_12 : decode cX7_keep 12 = .ok (.getfield 10, 3) := by decide +kernel
theorem dX7_keep_15 : decode cX7_keep 15 = .ok (.invokevirtual 287, 3) := by decide +kernel
theorem dX7_keep_18 : decode cX7_keep 18 = .ok (.aload_n 0, 1) := by decide +kernel
theorem dX7_keep_19 : decode cX7_keep 19 = .ok (.getfield 10, 3) := by decide +kernel
theorem dX7_keep_22 : decode cX7_keep 22 = .ok (.aload_n 0, 1) := by decide +kernel
theorem dX7_keep_23 : decode cX7_keep 23 = .ok (.getfield 16, 3) := by decide +kernel
theorem dX7_keep_26 : decode cX7_keep 26 = .ok (.invokevirtual 280, 3) := by decide +kernel
theorem dX7_keep_29 : decode cX7_keep 29 = .ok (.iload_n 1, 1) := by decide +kernel
theorem dX7_keep_30 : decode cX7_keep 30 = .ok (.ireturn, 1) := by decide +kernel
theorem dX7_isIn_0 : decode cX7_isIn 0 = .ok (.iload_n 0, 1) := by decide +kernel
theorem dX7_isIn_1 : decode cX7_isIn 1 = .ok (.iload_n 1, 1) := by decide +kernel
theorem dX7_isIn_2 : decode cX7_isIn 2 = .ok (.if_icmp .lt 12, 3) := by decide +kernel
theorem dX7_isIn_5 : decode cX7_isIn 5 = .ok (.iload_n 0, 1) := by decide +kernel
theorem dX7_isIn_6 : decode cX7_isIn 6 = .ok (.iload_n 2, 1) := by decide +kernel
theorem dX7_isIn_7 : decode cX7_isIn 7 = .ok (.if_icmp .gt 7, 3) := by decide +kernel
theorem dX7_isIn_10 : decode cX7_isIn 10 = .ok (.iconst 1, 1) := by decide +kernel
theorem dX7_isIn_11 : decode cX7_isIn 11 = .ok (.goto 4, 3) := by decide +kernel
theorem dX7_isIn_14 : decode cX7_isIn 14 = .ok (.iconst 0, 1) := by decide +kernel
theorem dX7_isIn_15 : decode cX7_isIn 15 = .ok (.ireturn, 1) := by decide +kernel
theorem dX7_isPort_0 : decode cX7_isPort 0 = .ok (.iload_n 0, 1) := by decide +kernel
theorem dX7_isPort_1 : decode cX7_isPort 1 = .ok (.iconst 0, 1) := by decide +kernel
theorem dX7_isPort_2 : decode cX7_isPort 2 = .ok (.bipush 7, 2) := by decide +kernel
theorem dX7_isPort_4 : decode cX7_isPort 4 = .ok (.invokestatic 156, 3) := by decide +kernel
theorem dX7_isPort_7 : decode cX7_isPort 7 = .ok (.ireturn, 1) := by decide +kernel
theorem dX7_isError_0 : decode cX7_isError 0 = .ok (.iload_n 0, 1) := by decide +kernel
theorem dX7_isError_1 : decode cX7_isError 1 = .ok (.ldc 155, 2) := by decide +kernel
theorem dX7_isError_3 : decode cX7_isError 3 = .ok (.ldc 77, 2) := by decide +kernel
theorem dX7_isError_5 : decode cX7_isError 5 = .ok (.invokestatic 156, 3) := by decide +kernel
theorem dX7_isError_8 : decode cX7_isError 8 = .ok (.ireturn, 1) := by decide +kernel
theorem dX7_divideUp_0 : decode cX7_divideUp 0 = .ok (.iload_n 1, 1) := by decide +kernel
theorem dX7_divideUp_1 : decode cX7_divideUp 1 = .ok (.iconst 1, 1) := by decide +kernel
theorem dX7_divideUp_2 : decode cX7_divideUp 2 = .ok (.if_icmp .ge 7, 3) := by decide +kernel
theorem dX7_divideUp_5 : decode cX7_divideUp 5 = .ok (.iconst 0, 1) := by decide +kernel
theorem dX7_divideUp_6 : decode cX7_divideUp 6 = .ok (.goto 10, 3) := by decide +kernel
theorem dX7_divideUp_9 : decode cX7_divideUp 9 = .ok (.iload_n 0, 1) := by decide +kernel
theorem dX7_divideUp_10 : decode cX7_divideUp 10 = .ok (.iload_n 1, 1) := by decide +kernel
theorem dX7_divideUp_11 : decode cX7_divideUp 11 = .ok (.iadd, 1) := by decide +kernel
theorem dX7_divideUp_12 : decode cX7_divideUp 12 = .ok (.iconst 1, 1) := by decide +kernel
theorem dX7_divideUp_13 : decode cX7_divideUp 13 = .ok (.isub, 1) := by decide +kernel
theorem dX7_divideUp_14 : decode cX7_divideUp 14 = .ok (.iload_n 1, 1) := by decide +kernel
theorem dX7_divideUp_15 : decode cX7_divideUp 15 = .ok (.idiv, 1) := by decide +kernel
theorem dX7_divideUp_16 : decode cX7_divideUp 16 = .ok (.ireturn, 1) := by decide +kernel
end
section
theorem dJ13_bitCount_95d88_0 : decode cJ13_bitCount_95d88 0 = .ok (.lload_n 0, 1) := by decide +kernel
theorem dJ13_bitCount_95d88_1 : decode cJ13_bitCount_95d88 1 = .ok (.lload_n 0, 1) := by decide +kernel
theorem dJ13_bitCount_95d88_2 : decode cJ13_bitCount_95d88 2 = .ok (.iconst 1, 1) := by decide +kernel
theorem dJ13_bitCount_95d88_3 : decode cJ13_bitCount_95d88 3 = .ok (.lushr, 1) := by decide +kernel
theorem dJ13_bitCount_95d88_4 : decode cJ13_bitCount_95d88 4 = .ok (.ldc2_w 314, 3) := by decide +kernel
theorem dJ13_bitCount_95d88_7 : decode cJ13_bitCount_95d88 7 = .ok (.land, 1) := by decide +kernel
theorem dJ13_bitCount_95d88_8 : decode cJ13_bitCount_95d88 8 = .ok (.lsub, 1) := by decide +kernel
theorem dJ13_bitCount_95d88_9 : decode cJ13_bitCount_95d88 9 = .ok (.lstore_n 0, 1) := by decide +kernel
theorem dJ13_bitCount_95d88_10 : decode cJ13_bitCount_95d88 10 = .ok (.lload_n 0, 1) := by decide +kernel
theorem dJ13_bitCount_95d88_11 : decode cJ13_bitCount_95d88 11 = .ok (.ldc2_w 316, 3) := by decide +kernel
theorem dJ13_bitCount_95d88_14 : decode cJ13_bitCount_95d88 14 = .ok (.land, 1) := by decide +kernel
theorem dJ13_bitCount_95d88_15 : decode cJ13_bitCount_95d88 15 = .ok (.lload_n 0, 1) := by decide +kernel
theorem dJ13_bitCount_95d88_16 : decode cJ13_bitCount_95d88 16 = .ok (.iconst 2, 1) := by decide +kernel
theorem dJ13_bitCount_95d88_17 : decode cJ13_bitCount_95d88 17 = .ok (.lushr, 1) := by decide +kernel
theorem dJ13_bitCount_95d88_18 : decode cJ13_bitCount_95d88 18 = .ok (.ldc2_w 316, 3) := by decide +kernel
theorem dJ13_bitCount_95d88_21 : decode cJ13_bitCount_95d88 21 = .ok (.land, 1) := by decide +kernel
theorem dJ13_bitCount_95d88_22 : decode cJ13_bitCount_95d88 22 = .ok (.ladd, 1) := by decide +kernel
theorem dJ13_bitCount_95d88_23 : decode cJ13_bitCount_95d88 23 = .ok (.lstore_n 0, 1) := by decide +kernel
theorem dJ13_bitCount_95d88_24 : decode cJ13_bitCount_95d88 24 = .ok (.lload_n 0, 1) := by decide +kernel
theorem dJ13_bitCount_95d88_25 : decode cJ13_bitCount_95d88 25 = .ok (.lload_n 0, 1) := by decide +kernel
theorem dJ13_bitCount_95d88_26 : decode cJ13_bitCount_95d88 26 = .ok (.iconst 4, 1) := by decide +kernel
theorem dJ13_bitCount_95d88_27 : decode cJ13_bitCount_95d88 27 = .ok (.lushr, 1) := by decide +kernel
theorem dJ13_bitCount_95d88_28 : decode cJ13_bitCount_95d88 28 = .ok (.ladd, 1) := by decide +kernel
theorem dJ13_bitCount_95d88_29 : decode cJ13_bitCount_95d88 29 = .ok (.ldc2_w 318, 3) := by decide +kernel
theorem dJ13_bitCount_95d88_32 : decode cJ13_bitCount_95d88 32 = .ok (.land, 1) := by decide +kernel
theorem dJ13_bitCount_95d88_33 : decode cJ13_bitCount_95d88 33 = .ok (.lstore_n 0, 1) := by decide +kernel
theorem dJ13_bitCount_95d88_34 : decode cJ13_bitCount_95d88 34 = .ok (.lload_n 0, 1) := by decide +kernel
theorem dJ13_bitCount_95d88_35 : decode cJ13_bitCount_95d88 35 = .ok (.lload_n 0, 1) := by decide +kernel
theorem dJ13_bitCount_95d88_36 : decode cJ13_bitCount_95d88 36 = .ok (.bipush 8, 2) := by decide +kernel
theorem dJ13_bitCount_95d88_38 : decode cJ13_bitCount_95d88 38 = .ok (.lushr, 1) := by decide +kernel
theorem dJ13_bitCount_95d88_39 : decode cJ13_bitCount_95d88 39 = .ok (.ladd, 1) := by decide +kernel
theorem dJ13_bitCount_95d88_40 : decode cJ13_bitCount_95d88 40 = .ok (.lstore_n 0, 1) := by decide +kernel
theorem dJ13_bitCount_95d88_41 : decode cJ13_bitCount_95d88 41 = .ok (.lload_n 0, 1) := by decide +kernel
theorem dJ13_bitCount_95d88_42 : decode cJ13_bitCount_95d88 42 = .ok (.lload_n 0, 1) := by decide +kernel
theorem dJ13_bitCount_95d88_43 : decode cJ13_bitCount_95d88 43 = .ok (.bipush 16, 2) := by decide +kernel
theorem dJ13_bitCount_95d88_45 : decode cJ13_bitCount_95d88 45 = .ok (.lushr, 1) := by decide +kernel
theorem dJ13_bitCount_95d88_46 : decode cJ13_bitCount_95d88 46 = .ok (.ladd, 1) := by decide +kernel
theorem dJ13_bitCount_95d88_47 : decode cJ13_bitCount_95d88 47 = .ok (.lstore_n 0, 1) := by decide +kernel
theorem dJ13_bitCount_95d88_48 : decode cJ13_bitCount_95d88 48 = .ok (.lload_n 0, 1) := by decide +kernel
theorem dJ13_bitCount_95d88_49 : decode cJ13_bitCount_95d88 49 = .ok (.lload_n 0, 1) := by decide +kernel
theorem dJ13_bitCount_95d88_50 : decode cJ13_bitCount_95d88 50 = .ok (.bipush 32, 2) := by decide +kernel
theorem dJ13_bitCount_95d88_52 : decode cJ13_bitCount_95d88 52 = .ok (.lushr, 1) := by decide +kernel
theorem dJ13_bitCount_95d88_53 : decode cJ13_bitCount_95d88 53 = .ok (.ladd, 1) := by decide +kernel
theorem dJ13_bitCount_95d88_54 : decode cJ13_bitCount_95d88 54 = .ok (.lstore_n 0, 1) := by decide +kernel
theorem dJ13_bitCount_95d88_55 : decode cJ13_bitCount_95d88 55 = .ok (.lload_n 0, 1) := by decide +kernel
theorem dJ13_bitCount_95d88_56 : decode cJ13_bitCount_95d88 56 = .ok (.l2i, 1) := by decide +kernel
theorem dJ13_bitCount_95d88_57 : decode cJ13_bitCount_95d88 57 = .ok (.bipush 127, 2) := by decide +kernel
theorem dJ13_bitCount_95d88_59 : decode cJ13_bitCount_95d88 59 = .ok (.iand, 1) := by decide +kernel
theorem dJ13_bitCount_95d88_60 : decode cJ13_bitCount_95d88 60 = .ok (.ireturn, 1) := by decide +kernel
theorem dJ9_max_7cf53_0 : decode cJ9_max_7cf53 0 = .ok (.iload_n 0, 1) := by decide +kernel
theorem dJ9_max_7cf53_1 : decode cJ9_max_7cf53 1 = .ok (.iload_n 1, 1) := by decide +kernel
theorem dJ9_max_7cf53_2 : decode cJ9_max_7cf53 2 = .ok (.if_icmp .lt 7, 3) := by decide +kernel
theorem dJ9_max_7cf53_5 : decode cJ9_max_7cf53 5 = .ok (.iload_n 0, 1) := by decide +kernel
theorem dJ9_max_7cf53_6 : decode cJ9_max_7cf53 6 = .ok (.goto 4, 3) := by decide +kernel
theorem dJ9_max_7cf53_9 : decode cJ9_max_7cf53 9 = .ok (.iload_n 1, 1) := by decide +kernel
theorem dJ9_max_7cf53_10 : decode cJ9_max_7cf53 10 = .ok (.ireturn, 1) := by decide +kernel
theorem dJ9_min_7cf53_0 : decode cJ9_min_7cf53 0 = .ok (.iload_n 0, 1) := by decide +kernel
theorem dJ9_min_7cf53_1 : decode cJ9_min_7cf53 1 = .ok (.iload_n 1, 1) := by decide +kernel
theorem dJ9_min_7cf53_2 : decode cJ9_min_7cf53 2 = .ok (.if_icmp .gt 7, 3) := by decide +kernel
theorem dJ9_min_7cf53_5 : decode cJ9_min_7cf53 5 = .ok (.iload_n 0, 1) := by decide +kernel
theorem dJ9_min_7cf53_6 : decode cJ9_min_7cf53 6 = .ok (.goto 4, 3) := by decide +kernel
theorem dJ9_min_7cf53_9 : decode cJ9_min_7cf53 9 = .ok (.iload_n 1, 1) := by decide +kernel
theorem dJ9_min_7cf53_10 : decode cJ9_min_7cf53 10 = .ok (.ireturn, 1) := by decide +kernel
end
section
theorem dL_cell_0 : decode cL_cell 0 = .ok (.iload_n 1, 1) := by decide +kernel
theorem dL_cell_1 : decode cL_cell 1 = .ok (.aload_n 0, 1) := by decide +kernel
theorem dL_cell_2 : decode cL_cell 2 = .ok (.arraylength, 1) := by decide +kernel
theorem dL_cell_3 : decode cL_cell 3 = .ok (.if_icmp .ge 9, 3) := by decide +kernel
theorem dL_cell_6 : decode cL_cell 6 = .ok (.aload_n 0, 1) := by decide +kernel
theorem dL_cell_7 : decode cL_cell 7 = .ok (.iload_n 1, 1) := by decide +kernel
theorem dL_cell_8 : decode cL_cell 8 = .ok (.iaload, 1) := by decide +kernel
theorem dL_cell_9 : decode cL_cell 9 = .ok (.goto 15, 3) := by decide +kernel
theorem dL_cell_12 : decode cL_cell 12 = .ok (.sipush 30403, 3) := by decide +kernel
theorem dL_cell_15 : decode cL_cell 15 = .ok (.iload_n 1, 1) := by decide +kernel
theorem dL_cell_16 : decode cL_cell 16 = .ok (.sipush 4096, 3) := by decide +kernel
theorem dL_cell_19 : decode cL_cell 19 = .ok (.irem, 1) := by decide +kernel
theorem dL_cell_20 : decode cL_cell 20 = .ok (.imul, 1) := by decide +kernel
theorem dL_cell_21 : decode cL_cell 21 = .ok (.bipush 127, 2) := by decide +kernel
theorem dL_cell_23 : decode cL_cell 23 = .ok (.iadd, 1) := by decide +kernel
theorem dL_cell_24 : decode cL_cell 24 = .ok (.ldc 7, 2) := by decide +kernel
theorem dL_cell_26 : decode cL_cell 26 = .ok (.iand, 1) := by decide +kernel
theorem dL_cell_27 : decode cL_cell 27 = .ok (.ireturn, 1) := by decide +kernel
theorem dL_hangs_0 : decode cL_hangs 0 = .ok (.aload_n 0, 1) := by decide +kernel
theorem dL_hangs_1 : decode cL_hangs 1 = .ok (.iload_n 1, 1) := by decide +kernel
theorem dL_hangs_2 : decode cL_hangs 2 = .ok (.iconst 5, 1) := by decide +kernel
theorem dL_hangs_3 : decode cL_hangs 3 = .ok (.invokevirtual 8, 3) := by decide +kernel
theorem dL_hangs_6 : decode cL_hangs 6 = .ok (.istore_n 2, 1) := by decide +kernel
theorem dL_hangs_7 : decode cL_hangs 7 = .ok (.aload_n 0, 1) := by decide +kernel
theorem dL_hangs_8 : decode cL_hangs 8 = .ok (.iload_n 1, 1) := by decide +kernel
theorem dL_hangs_9 : decode cL_hangs 9 = .ok (.bipush 6, 2) := by decide +kernel
theorem dL_hangs_11 : decode cL_hangs 11 = .ok (.invokevirtual 8, 3) := by decide +kernel
theorem dL_hangs_14 : decode cL_hangs 14 = .ok (.istore_n 3, 1) := by decide +kernel
theorem dL_hangs_15 : decode cL_hangs 15 = .ok (.aload_n 0, 1) := by decide +kernel
theorem dL_hangs_16 : decode cL_hangs 16 = .ok (.iload_n 1, 1) := by decide +kernel
theorem dL_hangs_17 : decode cL_hangs 17 = .ok (.bipush 7, 2) := by decide +kernel
theorem dL_hangs_19 : decode cL_hangs 19 = .ok (.invokevirtual 8, 3) := by decide +kernel
theorem dL_hangs_22 : decode cL_hangs 22 = .ok (.istore 4, 2) := by decide +kernel
theorem dL_hangs_24 : decode cL_hangs 24 = .ok (.iconst 0, 1) := by decide +kernel
theorem dL_hangs_25 : decode cL_hangs 25 = .ok (.istore 5, 2) := by decide +kernel
theorem dL_hangs_27 : decode cL_hangs 27 = .ok (.aload_n 0, 1) := by decide +kernel
theorem dL_hangs_28 : decode cL_hangs 28 = .ok (.iload_n 1, 1) := by decide +kernel
theorem dL_hangs_29 : decode cL_hangs 29 = .ok (.iload 4, 2) := by decide +kernel
theorem dL_hangs_31 : decode cL_hangs 31 = .ok (.iconst 0, 1) := by decide +kernel
theorem dL_hangs_32 : decode cL_hangs 32 = .ok (.invokevirtual 14, 3) := by decide +kernel
theorem dL_hangs_35 : decode cL_hangs 35 = .ok (.ldc 18, 2) := by decide +kernel
theorem dL_hangs_37 : decode cL_hangs 37 = .ok (.if_icmp .ne 7, 3) := by decide +kernel
theorem dL_hangs_40 : decode cL_hangs 40 = .ok (.iconst 1, 1) := by decide +kernel
theorem dL_hangs_41 : decode cL_hangs 41 = .ok (.goto 4, 3) := by decide +kernel
theorem dL_hangs_44 : decode cL_hangs 44 = .ok (.iconst 0, 1) := by decide +kernel
theorem dL_hangs_45 : decode cL_hangs 45 = .ok (.istore 6, 2) := by decide +kernel
theorem dL_hangs_47 : decode cL_hangs 47 = .ok (.iconst 0, 1) := by decide +kernel
theorem dL_hangs_48 : decode cL_hangs 48 = .ok (.istore 7, 2) := by decide +kernel
theorem dL_hangs_50 : decode cL_hangs 50 = .ok (.iload 7, 2) := by decide +kernel
theorem dL_hangs_52 : decode cL_hangs 52 = .ok (.iload 4, 2) := by decide +kernel
theorem dL_hangs_54 : decode cL_hangs 54 = .ok (.if_icmp .ge 300, 3) := by decide +kernel
theorem dL_hangs_57 : decode cL_hangs 57 = .ok (.iload 6, 2) := by decide +kernel
theorem dL_hangs_59 : decode cL_hangs 59 = .ok (.ifCond .eq 295, 3) := by decide +kernel
theorem dL_hangs_62 : decode cL_hangs 62 = .ok (.aload_n 0, 1) := by decide +kernel
theorem dL_hangs_63 : decode cL_hangs 63 = .ok (.iload_n 1, 1) := by decide +kernel
theorem dL_hangs_64 : decode cL_hangs 64 = .ok (.iload 7, 2) := by decide +kernel
theorem dL_hangs_66 : decode cL_hangs 66 = .ok (.iconst 0, 1) := by decide +kernel
theorem dL_hangs_67 : decode cL_hangs 67 = .ok (.invokevirtual 14, 3) := by decide +kernel
theorem dL_hangs_70 : decode cL_hangs 70 = .ok (.istore 8, 2) := by decide +kernel
theorem dL_hangs_72 : decode cL_hangs 72 = .ok (.bipush 24, 2) := by decide +kernel
theorem dL_hangs_74 : decode cL_hangs 74 = .ok (.aload_n 0, 1) := by decide +kernel
theorem dL_hangs_75 : decode cL_hangs 75 = .ok (.iload_n 1, 1) := by decide +kernel
theorem dL_hangs_76 : decode cL_hangs 76 = .ok (.iconst 1, 1) := by decide +kernel
theorem dL_hangs_77 : decode cL_hangs 77 = .ok (.invokevirtual 8, 3) := by decide +kernel
theorem dL_hangs_80 : decode cL_hangs 80 = .ok (.imul, 1) := by decide +kernel
theorem dL_hangs_81 : decode cL_hangs 81 = .ok (.istore 9, 2) := by decide +kernel
theorem dL_hangs_83 : decode cL_hangs 83 = .ok (.iload_n 3, 1) := by decide +kernel
theorem dL_hangs_84 : decode cL_hangs 84 = .ok (.aload_n 0, 1) := by decide +kernel
theorem dL_hangs_85 : decode cL_hangs 85 = .ok (.iload_n 2, 1) := by decide +kernel
theorem dL_hangs_86 : decode cL_hangs 86 = .ok (.aload_n 0, 1) := by decide +kernel
theorem dL_hangs_87 : decode cL_hangs 87 = .ok (.iload 8, 2) := by decide +kernel
theorem dL_hangs_89 : decode cL_hangs 89 = .ok (.iconst 1, 1) := by decide +kernel
theorem dL_hangs_90 : decode cL_hangs 90 = .ok (.invokevirtual 19, 3) := by decide +kernel
theorem dL_hangs_93 : decode cL_hangs 93 = .ok (.invokevirtual 22, 3) := by decide +kernel
theorem dL_hangs_96 : decode cL_hangs 96 = .ok (.iload 9, 2) := by decide +kernel
theorem dL_hangs_98 : decode cL_hangs 98 = .ok (.iadd, 1) := by decide +kernel
theorem dL_hangs_99 : decode cL_hangs 99 = .ok (.iconst 1, 1) := by decide +kernel
theorem dL_hangs_100 : decode cL_hangs 100 = .ok (.isub, 1) := by decide +kernel
theorem dL_hangs_101 : decode cL_hangs 101 = .ok (.iload 9, 2) := by decide +kernel
theorem dL_hangs_103 : decode cL_hangs 103 = .ok (.idiv, 1) := by decide +kernel
theorem dL_hangs_104 : decode cL_hangs 104 = .ok (.iadd, 1) := by decide +kernel
theorem dL_hangs_105 : decode cL_hangs 105 = .ok (.istore 10, 2) := by decide +kernel
theorem dL_hangs_107 : decode cL_hangs 107 = .ok (.iload 10, 2) := by decide +kernel
theorem dL_hangs_109 : decode cL_hangs 109 = .ok (.aload_n 0, 1) := by decide +kernel
theorem dL_hangs_110 : decode cL_hangs 110 = .ok (.iload 8, 2) := by decide +kernel
theorem dL_hangs_112 : decode cL_hangs 112 = .ok (.iconst 3, 1) := by decide +kernel
theorem dL_hangs_113 : decode cL_hangs 113 = .ok (.invokevirtual 19, 3) := by decide +kernel
theorem dL_hangs_116 : decode cL_hangs 116 = .ok (.if_icmp .ge 13, 3) := by decide +kernel
theorem dL_hangs_119 : decode cL_hangs 119 = .ok (.aload_n 0, 1) := by decide +kernel
theorem dL_hangs_120 : decode cL_hangs 120 = .ok (.iload 8, 2) := by decide +kernel
theorem dL_hangs_122 : decode cL_hangs 122 = .ok (.iconst 3, 1) := by decide +kernel
theorem dL_hangs_123 : decode cL_hangs 123 = .ok (.invokevirtual 19, 3) := by decide +kernel
theorem dL_hangs_126 : decode cL_hangs 126 = .ok (.goto 5, 3) := by decide +kernel
theorem dL_hangs_129 : decode cL_hangs 129 = .ok (.iload 10, 2) := by decide +kernel
theorem dL_hangs_131 : decode cL_hangs 131 = .ok (.istore 11, 2) := by decide +kernel
theorem dL_hangs_133 : decode cL_hangs 133 = .ok (.iload 11, 2) := by decide +kernel
theorem dL_hangs_135 : decode cL_hangs 135 = .ok (.iconst 4, 1) := by decide +kernel
theorem dL_hangs_136 : decode cL_hangs 136 = .ok (.iadd, 1) := by decide +kernel
theorem dL_hangs_137 : decode cL_hangs 137 = .ok (.aload_n 0, 1) := by decide +kernel
theorem dL_hangs_138 : decode cL_hangs 138 = .ok (.aload_n 0, 1) := by decide +kernel
theorem dL_hangs_139 : decode cL_hangs 139 = .ok (.iload 8, 2) := by decide +kernel
theorem dL_hangs_141 : decode cL_hangs 141 = .ok (.iconst 1, 1) := by decide +kernel
theorem dL_hangs_142 : decode cL_hangs 142 = .ok (.invokevirtual 19, 3) := by decide +kernel
theorem dL_hangs_145 : decode cL_hangs 145 = .ok (.aload_n 0, 1) := by decide +kernel
theorem dL_hangs_146 : decode cL_hangs 146 = .ok (.iload 8, 2) := by decide +kernel
theorem dL_hangs_148 : decode cL_hangs 148 = .ok (.iconst 2, 1) := by decide +kernel
theorem dL_hangs_149 : decode cL_hangs 149 = .ok (.invokevirtual 19, 3) := by decide +kernel
theorem dL_hangs_152 : decode cL_hangs 152 = .ok (.invokevirtual 22, 3) := by decide +kernel
theorem dL_hangs_155 : decode cL_hangs 155 = .ok (.iload 9, 2) := by decide +kernel
theorem dL_hangs_157 : decode cL_hangs 157 = .ok (.iadd, 1) := by decide +kernel
theorem dL_hangs_158 : decode cL_hangs 158 = .ok (.iconst 1, 1) := by decide +kernel
theorem dL_hangs_159 : decode cL_hangs 159 = .ok (.isub, 1) := by decide +kernel
theorem dL_hangs_160 : decode cL_hangs 160 = .ok (.iload 9, 2) := by decide +kernel
theorem dL_hangs_162 : decode cL_hangs 162 = .ok (.idiv, 1) := by decide +kernel
theorem dL_hangs_163 : decode cL_hangs 163 = .ok (.iadd, 1) := by decide +kernel
theorem dL_hangs_164 : decode cL_hangs 164 = .ok (.istore 12, 2) := by decide +kernel
theorem dL_hangs_166 : decode cL_hangs 166 = .ok (.aload_n 0, 1) := by decide +kernel
theorem dL_hangs_167 : decode cL_hangs 167 = .ok (.iload 8, 2) := by decide +kernel
theorem dL_hangs_169 : decode cL_hangs 169 = .ok (.iconst 0, 1) := by decide +kernel
theorem dL_hangs_170 : decode cL_hangs 170 = .ok (.invokevirtual 19, 3) := by decide +kernel
theorem dL_hangs_173 : decode cL_hangs 173 = .ok (.aload_n 0, 1) := by decide +kernel
theorem dL_hangs_174 : decode cL_hangs 174 = .ok (.iload 8, 2) := by decide +kernel
theorem dL_hangs_176 : decode cL_hangs 176 = .ok (.iconst 5, 1) := by decide +kernel
theorem dL_hangs_177 : decode cL_hangs 177 = .ok (.invokevirtual 19, 3) := by decide +kernel
theorem dL_hangs_180 : decode cL_hangs 180 = .ok (.imul, 1) := by decide +kernel
theorem dL_hangs_181 : decode cL_hangs 181 = .ok (.iload 12, 2) := by decide +kernel
theorem dL_hangs_183 : decode cL_hangs 183 = .ok (.iload_n 3, 1) := by decide +kernel
theorem dL_hangs_184 : decode cL_hangs 184 = .ok (.isub, 1) := by decide +kernel
theorem dL_hangs_185 : decode cL_hangs 185 = .ok (.aload_n 0, 1) := by decide +kernel
theorem dL_hangs_186 : decode cL_hangs 186 = .ok (.iload_n 1, 1) := by decide +kernel
theorem dL_hangs_187 : decode cL_hangs 187 = .ok (.iconst 2, 1) := by decide +kernel
theorem dL_hangs_188 : decode cL_hangs 188 = .ok (.invokevirtual 8, 3) := by decide +kernel
theorem dL_hangs_191 : decode cL_hangs 191 = .ok (.imul, 1) := by decide +kernel
theorem dL_hangs_192 : decode cL_hangs 192 = .ok (.isub, 1) := by decide +kernel
theorem dL_hangs_193 : decode cL_hangs 193 = .ok (.istore 13, 2) := by decide +kernel
theorem dL_hangs_195 : decode cL_hangs 195 = .ok (.aload_n 0, 1) := by decide +kernel
theorem dL_hangs_196 : decode cL_hangs 196 = .ok (.iload 8, 2) := by decide +kernel
theorem dL_hangs_198 : decode cL_hangs 198 = .ok (.bipush 6, 2) := by decide +kernel
theorem dL_hangs_200 : decode cL_hangs 200 = .ok (.invokevirtual 19, 3) := by decide +kernel
theorem dL_hangs_203 : decode cL_hangs 203 = .ok (.iconst 1, 1) := by decide +kernel
theorem dL_hangs_204 : decode cL_hangs 204 = .ok (.if_icmp .ne 123, 3) := by decide +kernel
theorem dL_hangs_207 : decode cL_hangs 207 = .ok (.aload_n 0, 1) := by decide +kernel
theorem dL_hangs_208 : decode cL_hangs 208 = .ok (.iload 8, 2) := by decide +kernel
theorem dL_hangs_210 : decode cL_hangs 210 = .ok (.bipush 7, 2) := by decide +kernel
theorem dL_hangs_212 : decode cL_hangs 212 = .ok (.invokevirtual 19, 3) := by decide +kernel
theorem dL_hangs_215 : decode cL_hangs 215 = .ok (.iload_n 1, 1) := by decide +kernel
theorem dL_hangs_216 : decode cL_hangs 216 = .ok (.if_icmp .ne 111, 3) := by decide +kernel
theorem dL_hangs_219 : decode cL_hangs 219 = .ok (.aload_n 0, 1) := by decide +kernel
theorem dL_hangs_220 : decode cL_hangs 220 = .ok (.iload 8, 2) := by decide +kernel
theorem dL_hangs_222 : decode cL_hangs 222 = .ok (.iconst 0, 1) := by decide +kernel
theorem dL_hangs_223 : decode cL_hangs 223 = .ok (.invokevirtual 19, 3) := by decide +kernel
theorem dL_hangs_226 : decode cL_hangs 226 = .ok (.aload_n 0, 1) := by decide +kernel
theorem dL_hangs_227 : decode cL_hangs 227 = .ok (.iload_n 1, 1) := by decide +kernel
theorem dL_hangs_228 : decode cL_hangs 228 = .ok (.iconst 0, 1) := by decide +kernel
theorem dL_hangs_229 : decode cL_hangs 229 = .ok (.invokevirtual 8, 3) := by decide +kernel
theorem dL_hangs_232 : decode cL_hangs 232 = .ok (.if_icmp .gt 95, 3) := by decide +kernel
theorem dL_hangs_235 : decode cL_hangs 235 = .ok (.iload 10, 2) := by decide +kernel
theorem dL_hangs_237 : decode cL_hangs 237 = .ok (.aload_n 0, 1) := by decide +kernel
theorem dL_hangs_238 : decode cL_hangs 238 = .ok (.iload 8, 2) := by decide +kernel
theorem dL_hangs_240 : decode cL_hangs 240 = .ok (.iconst 4, 1) := by decide +kernel
theorem dL_hangs_241 : decode cL_hangs 241 = .ok (.invokevirtual 19, 3) := by decide +kernel
theorem dL_hangs_244 : decode cL_hangs 244 = .ok (.if_icmp .gt 83, 3) := by decide +kernel
theorem dL_hangs_247 : decode cL_hangs 247 = .ok (.aload_n 0, 1) := by decide +kernel
theorem dL_hangs_248 : decode cL_hangs 248 = .ok (.iload_n 1, 1) := by decide +kernel
theorem dL_hangs_249 : decode cL_hangs 249 = .ok (.iload 7, 2) := by decide +kernel
theorem dL_hangs_251 : decode cL_hangs 251 = .ok (.iconst 1, 1) := by decide +kernel
theorem dL_hangs_252 : decode cL_hangs 252 = .ok (.invokevirtual 14, 3) := by decide +kernel
theorem dL_hangs_255 : decode cL_hangs 255 = .ok (.iload 10, 2) := by decide +kernel
theorem dL_hangs_257 : decode cL_hangs 257 = .ok (.if_icmp .ne 70, 3) := by decide +kernel
theorem dL_hangs_260 : decode cL_hangs 260 = .ok (.aload_n 0, 1) := by decide +kernel
theorem dL_hangs_261 : decode cL_hangs 261 = .ok (.iload_n 1, 1) := by decide +kernel
theorem dL_hangs_262 : decode cL_hangs 262 = .ok (.iload 7, 2) := by decide +kernel
theorem dL_hangs_264 : decode cL_hangs 264 = .ok (.iconst 2, 1) := by decide +kernel
theorem dL_hangs_265 : decode cL_hangs 265 = .ok (.invokevirtual 14, 3) := by decide +kernel
theorem dL_hangs_268 : decode cL_hangs 268 = .ok (.iload 11, 2) := by decide +kernel
theorem dL_hangs_270 : decode cL_hangs 270 = .ok (.if_icmp .ne 57, 3) := by decide +kernel
theorem dL_hangs_273 : decode cL_hangs 273 = .ok (.aload_n 0, 1) := by decide +kernel
theorem dL_hangs_274 : decode cL_hangs 274 = .ok (.iload_n 1, 1) := by decide +kernel
theorem dL_hangs_275 : decode cL_hangs 275 = .ok (.iload 7, 2) := by decide +kernel
theorem dL_hangs_277 : decode cL_hangs 277 = .ok (.iconst 3, 1) := by decide +kernel
theorem dL_hangs_278 : decode cL_hangs 278 = .ok (.invokevirtual 14, 3) := by decide +kernel
theorem dL_hangs_281 : decode cL_hangs 281 = .ok (.iload 12, 2) := by decide +kernel
theorem dL_hangs_283 : decode cL_hangs 283 = .ok (.if_icmp .ne 44, 3) := by decide +kernel
theorem dL_hangs_286 : decode cL_hangs 286 = .ok (.aload_n 0, 1) := by decide +kernel
theorem dL_hangs_287 : decode cL_hangs 287 = .ok (.iload_n 1, 1) := by decide +kernel
theorem dL_hangs_288 : decode cL_hangs 288 = .ok (.iload 7, 2) := by decide +kernel
theorem dL_hangs_290 : decode cL_hangs 290 = .ok (.iconst 4, 1) := by decide +kernel
theorem dL_hangs_291 : decode cL_hangs 291 = .ok (.invokevirtual 14, 3) := by decide +kernel
theorem dL_hangs_294 : decode cL_hangs 294 = .ok (.iload 13, 2) := by decide +kernel
theorem dL_hangs_296 : decode cL_hangs 296 = .ok (.ldc 25, 2) := by decide +kernel
theorem dL_hangs_298 : decode cL_hangs 298 = .ok (.iadd, 1) := by decide +kernel
theorem dL_hangs_299 : decode cL_hangs 299 = .ok (.if_icmp .ne 28, 3) := by decide +kernel
theorem dL_hangs_302 : decode cL_hangs 302 = .ok (.aload_n 0, 1) := by decide +kernel
theorem dL_hangs_303 : decode cL_hangs 303 = .ok (.iload_n 1, 1) := by decide +kernel
theorem dL_hangs_304 : decode cL_hangs 304 = .ok (.iload 7, 2) := by decide +kernel
theorem dL_hangs_306 : decode cL_hangs 306 = .ok (.iconst 5, 1) := by decide +kernel
theorem dL_hangs_307 : decode cL_hangs 307 = .ok (.invokevirtual 14, 3) := by decide +kernel
theorem dL_hangs_310 : decode cL_hangs 310 = .ok (.aload_n 0, 1) := by decide +kernel
theorem dL_hangs_311 : decode cL_hangs 311 = .ok (.iload 8, 2) := by decide +kernel
theorem dL_hangs_313 : decode cL_hangs 313 = .ok (.iconst 4, 1) := by decide +kernel
theorem dL_hangs_314 : decode cL_hangs 314 = .ok (.invokevirtual 19, 3) := by decide +kernel
theorem dL_hangs_317 : decode cL_hangs 317 = .ok (.iload 10, 2) := by decide +kernel
theorem dL_hangs_319 : decode cL_hangs 319 = .ok (.isub, 1) := by decide +kernel
theorem dL_hangs_320 : decode cL_hangs 320 = .ok (.if_icmp .ne 7, 3) := by decide +kernel
theorem dL_hangs_323 : decode cL_hangs 323 = .ok (.iconst 1, 1) := by decide +kernel
theorem dL_hangs_324 : decode cL_hangs 324 = .ok (.goto 4, 3) := by decide +kernel
theorem dL_hangs_327 : decode cL_hangs 327 = .ok (.iconst 0, 1) := by decide +kernel
theorem dL_hangs_328 : decode cL_hangs 328 = .ok (.istore 6, 2) := by decide +kernel
theorem dL_hangs_330 : decode cL_hangs 330 = .ok (.iload 5, 2) := by decide +kernel
theorem dL_hangs_332 : decode cL_hangs 332 = .ok (.iload 13, 2) := by decide +kernel
theorem dL_hangs_334 : decode cL_hangs 334 = .ok (.iadd, 1) := by decide +kernel
theorem dL_hangs_335 : decode cL_hangs 335 = .ok (.istore 5, 2) := by decide +kernel
theorem dL_hangs_337 : decode cL_hangs 337 = .ok (.aload_n 0, 1) := by decide +kernel
theorem dL_hangs_338 : decode cL_hangs 338 = .ok (.iload 8, 2) := by decide +kernel
theorem dL_hangs_340 : decode cL_hangs 340 = .ok (.iconst 2, 1) := by decide +kernel
theorem dL_hangs_341 : decode cL_hangs 341 = .ok (.invokevirtual 19, 3) := by decide +kernel
theorem dL_hangs_344 : decode cL_hangs 344 = .ok (.istore_n 2, 1) := by decide +kernel
theorem dL_hangs_345 : decode cL_hangs 345 = .ok (.iload 12, 2) := by decide +kernel
theorem dL_hangs_347 : decode cL_hangs 347 = .ok (.istore_n 3, 1) := by decide +kernel
theorem dL_hangs_348 : decode cL_hangs 348 = .ok (.iinc 7 1, 3) := by decide +kernel
theorem dL_hangs_351 : decode cL_hangs 351 = .ok (.goto (-301), 3) := by decide +kernel
theorem dL_hangs_354 : decode cL_hangs 354 = .ok (.iload 6, 2) := by decide +kernel
theorem dL_hangs_356 : decode cL_hangs 356 = .ok (.ifCond .eq 57, 3) := by decide +kernel
theorem dL_hangs_359 : decode cL_hangs 359 = .ok (.aload_n 0, 1) := by decide +kernel
theorem dL_hangs_360 : decode cL_hangs 360 = .ok (.iload_n 1, 1) := by decide +kernel
theorem dL_hangs_361 : decode cL_hangs 361 = .ok (.iconst 3, 1) := by decide +kernel
theorem dL_hangs_362 : decode cL_hangs 362 = .ok (.invokevirtual 8, 3) := by decide +kernel
theorem dL_hangs_365 : decode cL_hangs 365 = .ok (.iload_n 2, 1) := by decide +kernel
theorem dL_hangs_366 : decode cL_hangs 366 = .ok (.if_icmp .ne 47, 3) := by decide +kernel
theorem dL_hangs_369 : decode cL_hangs 369 = .ok (.aload_n 0, 1) := by decide +kernel
theorem dL_hangs_370 : decode cL_hangs 370 = .ok (.iload_n 1, 1) := by decide +kernel
theorem dL_hangs_371 : decode cL_hangs 371 = .ok (.iconst 4, 1) := by decide +kernel
theorem dL_hangs_372 : decode cL_hangs 372 = .ok (.invokevirtual 8, 3) := by decide +kernel
theorem dL_hangs_375 : decode cL_hangs 375 = .ok (.iload_n 3, 1) := by decide +kernel
theorem dL_hangs_376 : decode cL_hangs 376 = .ok (.if_icmp .ne 37, 3) := by decide +kernel
theorem dL_hangs_379 : decode cL_hangs 379 = .ok (.aload_n 0, 1) := by decide +kernel
theorem dL_hangs_380 : decode cL_hangs 380 = .ok (.iload_n 1, 1) := by decide +kernel
theorem dL_hangs_381 : decode cL_hangs 381 = .ok (.bipush 9, 2) := by decide +kernel
theorem dL_hangs_383 : decode cL_hangs 383 = .ok (.invokevirtual 8, 3) := by decide +kernel
theorem dL_hangs_386 : decode cL_hangs 386 = .ok (.iload 5, 2) := by decide +kernel
theorem dL_hangs_388 : decode cL_hangs 388 = .ok (.ldc 25, 2) := by decide +kernel
theorem dL_hangs_390 : decode cL_hangs 390 = .ok (.iadd, 1) := by decide +kernel
theorem dL_hangs_391 : decode cL_hangs 391 = .ok (.if_icmp .ne 22, 3) := by decide +kernel
theorem dL_hangs_394 : decode cL_hangs 394 = .ok (.iload 4, 2) := by decide +kernel
theorem dL_hangs_396 : decode cL_hangs 396 = .ok (.ifCond .gt 13, 3) := by decide +kernel
theorem dL_hangs_399 : decode cL_hangs 399 = .ok (.aload_n 0, 1) := by decide +kernel
theorem dL_hangs_400 : decode cL_hangs 400 = .ok (.iload_n 1, 1) := by decide +kernel
theorem dL_hangs_401 : decode cL_hangs 401 = .ok (.invokevirtual 26, 3) := by decide +kernel
theorem dL_hangs_404 : decode cL_hangs 404 = .ok (.ldc 18, 2) := by decide +kernel
theorem dL_hangs_406 : decode cL_hangs 406 = .ok (.if_icmp .ne 7, 3) := by decide +kernel
theorem dL_hangs_409 : decode cL_hangs 409 = .ok (.iconst 1, 1) := by decide +kernel
theorem dL_hangs_410 : decode cL_hangs 410 = .ok (.goto 4, 3) := by decide +kernel
theorem dL_hangs_413 : decode cL_hangs 413 = .ok (.iconst 0, 1) := by decide +kernel
theorem dL_hangs_414 : decode cL_hangs 414 = .ok (.ireturn, 1) := by decide +kernel
theorem dL_all_0 : decode cL_all 0 = .ok (.iconst 0, 1) := by decide +kernel
theorem dL_all_1 : decode cL_all 1 = .ok (.istore_n 1, 1) := by decide +kernel
theorem dL_all_2 : decode cL_all 2 = .ok (.ldc 25, 2) := by decide +kernel
theorem dL_all_4 : decode cL_all 4 = .ok (.istore_n 2, 1) := by decide +kernel
theorem dL_all_5 : decode cL_all 5 = .ok (.iconst 1, 1) := by decide +kernel
theorem dL_all_6 : decode cL_all 6 = .ok (.istore_n 3, 1) := by decide +kernel
theorem dL_all_7 : decode cL_all 7 = .ok (.iconst 0, 1) := by decide +kernel
theorem dL_all_8 : decode cL_all 8 = .ok (.istore 4, 2) := by decide +kernel
theorem dL_all_10 : decode cL_all 10 = .ok (.iload 4, 2) := by decide +kernel
theorem dL_all_12 : decode cL_all 12 = .ok (.aload_n 0, 1) := by decide +kernel
theorem dL_all_13 : decode cL_all 13 = .ok (.iconst 0, 1) := by decide +kernel
theorem dL_all_14 : decode cL_all 14 = .ok (.invokevirtual 30, 3) := by decide +kernel
theorem dL_all_17 : decode cL_all 17 = .ok (.if_icmp .ge 61, 3) := by decide +kernel
theorem dL_all_20 : decode cL_all 20 = .ok (.iload_n 3, 1) := by decide +kernel
theorem dL_all_21 : decode cL_all 21 = .ok (.ifCond .eq 57, 3) := by decide +kernel
theorem dL_all_24 : decode cL_all 24 = .ok (.aload_n 0, 1) := by decide +kernel
theorem dL_all_25 : decode cL_all 25 = .ok (.iload 4, 2) := by decide +kernel
theorem dL_all_27 : decode cL_all 27 = .ok (.invokestatic 33, 3) := by decide +kernel
theorem dL_all_30 : decode cL_all 30 = .ok (.istore_n 3, 1) := by decide +kernel
theorem dL_all_31 : decode cL_all 31 = .ok (.iload_n 1, 1) := by decide +kernel
theorem dL_all_32 : decode cL_all 32 = .ok (.iload_n 3, 1) := by decide +kernel
theorem dL_all_33 : decode cL_all 33 = .ok (.ifCond .eq 14, 3) := by decide +kernel
theorem dL_all_36 : decode cL_all 36 = .ok (.aload_n 0, 1) := by decide +kernel
theorem dL_all_37 : decode cL_all 37 = .ok (.iload 4, 2) := by decide +kernel
theorem dL_all_39 : decode cL_all 39 = .ok (.bipush 7, 2) := by decide +kernel
theorem dL_all_41 : decode cL_all 41 = .ok (.invokevirtual 8, 3) := by decide +kernel
theorem dL_all_44 : decode cL_all 44 = .ok (.goto 4, 3) := by decide +kernel
theorem dL_all_47 : decode cL_all 47 = .ok (.iconst 0, 1) := by decide +kernel
theorem dL_all_48 : decode cL_all 48 = .ok (.iadd, 1) := by decide +kernel
theorem dL_all_49 : decode cL_all 49 = .ok (.istore_n 1, 1) := by decide +kernel
theorem dL_all_50 : decode cL_all 50 = .ok (.iload_n 2, 1) := by decide +kernel
theorem dL_all_51 : decode cL_all 51 = .ok (.iload_n 3, 1) := by decide +kernel
theorem dL_all_52 : decode cL_all 52 = .ok (.ifCond .eq 17, 3) := by decide +kernel
theorem dL_all_55 : decode cL_all 55 = .ok (.aload_n 0, 1) := by decide +kernel
theorem dL_all_56 : decode cL_all 56 = .ok (.iload 4, 2) := by decide +kernel
theorem dL_all_58 : decode cL_all 58 = .ok (.bipush 8, 2) := by decide +kernel
theorem dL_all_60 : decode cL_all 60 = .ok (.invokevirtual 8, 3) := by decide +kernel
theorem dL_all_63 : decode cL_all 63 = .ok (.ldc 25, 2) := by decide +kernel
theorem dL_all_65 : decode cL_all 65 = .ok (.isub, 1) := by decide +kernel
theorem dL_all_66 : decode cL_all 66 = .ok (.goto 4, 3) := by decide +kernel
theorem dL_all_69 : decode cL_all 69 = .ok (.iconst 0, 1) := by decide +kernel
theorem dL_all_70 : decode cL_all 70 = .ok (.iadd, 1) := by decide +kernel
theorem dL_all_71 : decode cL_all 71 = .ok (.istore_n 2, 1) := by decide +kernel
theorem dL_all_72 : decode cL_all 72 = .ok (.iinc 4 1, 3) := by decide +kernel
theorem dL_all_75 : decode cL_all 75 = .ok (.goto (-65), 3) := by decide +kernel
theorem dL_all_78 : decode cL_all 78 = .ok (.iconst 0, 1) := by decide +kernel
theorem dL_all_79 : decode cL_all 79 = .ok (.istore 4, 2) := by decide +kernel
theorem dL_all_81 : decode cL_all 81 = .ok (.iconst 0, 1) := by decide +kernel
theorem dL_all_82 : decode cL_all 82 = .ok (.istore 5, 2) := by decide +kernel
theorem dL_all_84 : decode cL_all 84 = .ok (.iload 5, 2) := by decide +kernel
theorem dL_all_86 : decode cL_all 86 = .ok (.aload_n 0, 1) := by decide +kernel
theorem dL_all_87 : decode cL_all 87 = .ok (.iconst 1, 1) := by decide +kernel
theorem dL_all_88 : decode cL_all 88 = .ok (.invokevirtual 30, 3) := by decide +kernel
theorem dL_all_91 : decode cL_all 91 = .ok (.if_icmp .ge 65, 3) := by decide +kernel
theorem dL_all_94 : decode cL_all 94 = .ok (.iload_n 3, 1) := by decide +kernel
theorem dL_all_95 : decode cL_all 95 = .ok (.ifCond .eq 61, 3) := by decide +kernel
theorem dL_all_98 : decode cL_all 98 = .ok (.iload 4, 2) := by decide +kernel
theorem dL_all_100 : decode cL_all 100 = .ok (.aload_n 0, 1) := by decide +kernel
theorem dL_all_101 : decode cL_all 101 = .ok (.iload 5, 2) := by decide +kernel
theorem dL_all_103 : decode cL_all 103 = .ok (.bipush 6, 2) := by decide +kernel
theorem dL_all_105 : decode cL_all 105 = .ok (.invokevirtual 19, 3) := by decide +kernel
theorem dL_all_108 : decode cL_all 108 = .ok (.ifCond .ne 7, 3) := by decide +kernel
theorem dL_all_111 : decode cL_all 111 = .ok (.iconst 1, 1) := by decide +kernel
theorem dL_all_112 : decode cL_all 112 = .ok (.goto 4, 3) := by decide +kernel
theorem dL_all_115 : decode cL_all 115 = .ok (.iconst 0, 1) := by decide +kernel
theorem dL_all_116 : decode cL_all 116 = .ok (.iadd, 1) := by decide +kernel
theorem dL_all_117 : decode cL_all 117 = .ok (.istore 4, 2) := by decide +kernel
theorem dL_all_119 : decode cL_all 119 = .ok (.aload_n 0, 1) := by decide +kernel
theorem dL_all_120 : decode cL_all 120 = .ok (.iload 5, 2) := by decide +kernel
theorem dL_all_122 : decode cL_all 122 = .ok (.bipush 7, 2) := by decide +kernel
theorem dL_all_124 : decode cL_all 124 = .ok (.invokevirtual 19, 3) := by decide +kernel
theorem dL_all_127 : decode cL_all 127 = .ok (.ldc 18, 2) := by decide +kernel
theorem dL_all_129 : decode cL_all 129 = .ok (.if_icmp .eq 15, 3) := by decide +kernel
theorem dL_all_132 : decode cL_all 132 = .ok (.aload_n 0, 1) := by decide +kernel
theorem dL_all_133 : decode cL_all 133 = .ok (.iload 5, 2) := by decide +kernel
theorem dL_all_135 : decode cL_all 135 = .ok (.bipush 6, 2) := by decide +kernel
theorem dL_all_137 : decode cL_all 137 = .ok (.invokevirtual 19, 3) := by decide +kernel
theorem dL_all_140 : decode cL_all 140 = .ok (.iconst 1, 1) := by decide +kernel
theorem dL_all_141 : decode cL_all 141 = .ok (.if_icmp .ne 7, 3) := by decide +kernel
theorem dL_all_144 : decode cL_all 144 = .ok (.iconst 1, 1) := by decide +kernel
theorem dL_all_145 : decode cL_all 145 = .ok (.goto 4, 3) := by decide +kernel
theorem dL_all_148 : decode cL_all 148 = .ok (.iconst 0, 1) := by decide +kernel
theorem dL_all_149 : decode cL_all 149 = .ok (.istore_n 3, 1) := by decide +kernel
theorem dL_all_150 : decode cL_all 150 = .ok (.iinc 5 1, 3) := by decide +kernel
theorem dL_all_153 : decode cL_all 153 = .ok (.goto (-69), 3) := by decide +kernel
theorem dL_all_156 : decode cL_all 156 = .ok (.iload_n 3, 1) := by decide +kernel
theorem dL_all_157 : decode cL_all 157 = .ok (.ifCond .eq 35, 3) := by decide +kernel
theorem dL_all_160 : decode cL_all 160 = .ok (.aload_n 0, 1) := by decide +kernel
theorem dL_all_161 : decode cL_all 161 = .ok (.iconst 3, 1) := by decide +kernel
theorem dL_all_162 : decode cL_all 162 = .ok (.invokevirtual 30, 3) := by decide +kernel
theorem dL_all_165 : decode cL_all 165 = .ok (.iload_n 1, 1) := by decide +kernel
theorem dL_all_166 : decode cL_all 166 = .ok (.if_icmp .ne 26, 3) := by decide +kernel
theorem dL_all_169 : decode cL_all 169 = .ok (.aload_n 0, 1) := by decide +kernel
theorem dL_all_170 : decode cL_all 170 = .ok (.iconst 2, 1) := by decide +kernel
theorem dL_all_171 : decode cL_all 171 = .ok (.invokevirtual 30, 3) := by decide +kernel
theorem dL_all_174 : decode cL_all 174 = .ok (.iload 4, 2) := by decide +kernel
theorem dL_all_176 : decode cL_all 176 = .ok (.if_icmp .ne 16, 3) := by decide +kernel
theorem dL_all_179 : decode cL_all 179 = .ok (.aload_n 0, 1) := by decide +kernel
theorem dL_all_180 : decode cL_all 180 = .ok (.iconst 4, 1) := by decide +kernel
theorem dL_all_181 : decode cL_all 181 = .ok (.invokevirtual 30, 3) := by decide +kernel
theorem dL_all_184 : decode cL_all 184 = .ok (.iload_n 2, 1) := by decide +kernel
theorem dL_all_185 : decode cL_all 185 = .ok (.if_icmp .ne 7, 3) := by decide +kernel
theorem dL_all_188 : decode cL_all 188 = .ok (.iconst 1, 1) := by decide +kernel
theorem dL_all_189 : decode cL_all 189 = .ok (.goto 4, 3) := by decide +kernel
theorem dL_all_192 : decode cL_all 192 = .ok (.iconst 0, 1) := by decide +kernel
theorem dL_all_193 : decode cL_all 193 = .ok (.ireturn, 1) := by decide +kernel
theorem dL_law_0 : decode cL_law 0 = .ok (.new 9, 3) := by decide +kernel
theorem dL_law_3 : decode cL_law 3 = .ok (.dup, 1) := by decide +kernel
theorem dL_law_4 : decode cL_law 4 = .ok (.invokespecial 39, 3) := by decide +kernel
theorem dL_law_7 : decode cL_law 7 = .ok (.astore_n 1, 1) := by decide +kernel
theorem dL_law_8 : decode cL_law 8 = .ok (.aload_n 1, 1) := by decide +kernel
theorem dL_law_9 : decode cL_law 9 = .ok (.iconst 0, 1) := by decide +kernel
theorem dL_law_10 : decode cL_law 10 = .ok (.iconst 4, 1) := by decide +kernel
theorem dL_law_11 : decode cL_law 11 = .ok (.invokevirtual 22, 3) := by decide +kernel
theorem dL_law_14 : decode cL_law 14 = .ok (.sipush 450, 3) := by decide +kernel
theorem dL_law_17 : decode cL_law 17 = .ok (.if_icmp .ne 17, 3) := by decide +kernel
theorem dL_law_20 : decode cL_law 20 = .ok (.aload_n 1, 1) := by decide +kernel
theorem dL_law_21 : decode cL_law 21 = .ok (.iconst 0, 1) := by decide +kernel
theorem dL_law_22 : decode cL_law 22 = .ok (.invokevirtual 40, 3) := by decide +kernel
theorem dL_law_25 : decode cL_law 25 = .ok (.ldc 43, 2) := by decide +kernel
theorem dL_law_27 : decode cL_law 27 = .ok (.if_icmp .ne 7, 3) := by decide +kernel
theorem dL_law_30 : decode cL_law 30 = .ok (.iconst 1, 1) := by decide +kernel
theorem dL_law_31 : decode cL_law 31 = .ok (.goto 4, 3) := by decide +kernel
theorem dL_law_34 : decode cL_law 34 = .ok (.iconst 0, 1) := by decide +kernel
theorem dL_law_35 : decode cL_law 35 = .ok (.istore_n 2, 1) := by decide +kernel
theorem dL_law_36 : decode cL_law 36 = .ok (.iconst 1, 1) := by decide +kernel
theorem dL_law_37 : decode cL_law 37 = .ok (.aload_n 0, 1) := by decide +kernel
theorem dL_law_38 : decode cL_law 38 = .ok (.iconst 0, 1) := by decide +kernel
theorem dL_law_39 : decode cL_law 39 = .ok (.invokestatic 44, 3) := by decide +kernel
theorem dL_law_42 : decode cL_law 42 = .ok (.iconst 3, 1) := by decide +kernel
theorem dL_law_43 : decode cL_law 43 = .ok (.irem, 1) := by decide +kernel
theorem dL_law_44 : decode cL_law 44 = .ok (.iadd, 1) := by decide +kernel
theorem dL_law_45 : decode cL_law 45 = .ok (.istore_n 3, 1) := by decide +kernel
theorem dL_law_46 : decode cL_law 46 = .ok (.iconst 0, 1) := by decide +kernel
theorem dL_law_47 : decode cL_law 47 = .ok (.istore 4, 2) := by decide +kernel
theorem dL_law_49 : decode cL_law 49 = .ok (.iload 4, 2) := by decide +kernel
theorem dL_law_51 : decode cL_law 51 = .ok (.iload_n 3, 1) := by decide +kernel
theorem dL_law_52 : decode cL_law 52 = .ok (.if_icmp .ge 84, 3) := by decide +kernel
theorem dL_law_55 : decode cL_law 55 = .ok (.iload_n 2, 1) := by decide +kernel
theorem dL_law_56 : decode cL_law 56 = .ok (.ifCond .eq 80, 3) := by decide +kernel
theorem dL_law_59 : decode cL_law 59 = .ok (.aload_n 0, 1) := by decide +kernel
theorem dL_law_60 : decode cL_law 60 = .ok (.iconst 1, 1) := by decide +kernel
theorem dL_law_61 : decode cL_law 61 = .ok (.iload 4, 2) := by decide +kernel
theorem dL_law_63 : decode cL_law 63 = .ok (.iadd, 1) := by decide +kernel
theorem dL_law_64 : decode cL_law 64 = .ok (.invokestatic 44, 3) := by decide +kernel
theorem dL_law_67 : decode cL_law 67 = .ok (.istore 5, 2) := by decide +kernel
theorem dL_law_69 : decode cL_law 69 = .ok (.aload_n 1, 1) := by decide +kernel
theorem dL_law_70 : decode cL_law 70 = .ok (.bipush 20, 2) := by decide +kernel
theorem dL_law_72 : decode cL_law 72 = .ok (.iload 5, 2) := by decide +kernel
theorem dL_law_74 : decode cL_law 74 = .ok (.bipush 80, 2) := by decide +kernel
theorem dL_law_76 : decode cL_law 76 = .ok (.irem, 1) := by decide +kernel
theorem dL_law_77 : decode cL_law 77 = .ok (.iadd, 1) := by decide +kernel
theorem dL_law_78 : decode cL_law 78 = .ok (.iconst 5, 1) := by decide +kernel
theorem dL_law_79 : decode cL_law 79 = .ok (.iload 5, 2) := by decide +kernel
theorem dL_law_81 : decode cL_law 81 = .ok (.sipush 128, 3) := by decide +kernel
theorem dL_law_84 : decode cL_law 84 = .ok (.idiv, 1) := by decide +kernel
theorem dL_law_85 : decode cL_law 85 = .ok (.bipush 16, 2) := by decide +kernel
theorem dL_law_87 : decode cL_law 87 = .ok (.irem, 1) := by decide +kernel
theorem dL_law_88 : decode cL_law 88 = .ok (.iadd, 1) := by decide +kernel
theorem dL_law_89 : decode cL_law 89 = .ok (.iconst 1, 1) := by decide +kernel
theorem dL_law_90 : decode cL_law 90 = .ok (.iload 5, 2) := by decide +kernel
theorem dL_law_92 : decode cL_law 92 = .ok (.sipush 4096, 3) := by decide +kernel
theorem dL_law_95 : decode cL_law 95 = .ok (.idiv, 1) := by decide +kernel
theorem dL_law_96 : decode cL_law 96 = .ok (.bipush 20, 2) := by decide +kernel
theorem dL_law_98 : decode cL_law 98 = .ok (.irem, 1) := by decide +kernel
theorem dL_law_99 : decode cL_law 99 = .ok (.iadd, 1) := by decide +kernel
theorem dL_law_100 : decode cL_law 100 = .ok (.iload 5, 2) := by decide +kernel
theorem dL_law_102 : decode cL_law 102 = .ok (.ldc 48, 2) := by decide +kernel
theorem dL_law_104 : decode cL_law 104 = .ok (.idiv, 1) := by decide +kernel
theorem dL_law_105 : decode cL_law 105 = .ok (.bipush 8, 2) := by decide +kernel
theorem dL_law_107 : decode cL_law 107 = .ok (.irem, 1) := by decide +kernel
theorem dL_law_108 : decode cL_law 108 = .ok (.iload 5, 2) := by decide +kernel
theorem dL_law_110 : decode cL_law 110 = .ok (.ldc 49, 2) := by decide +kernel
theorem dL_law_112 : decode cL_law 112 = .ok (.idiv, 1) := by decide +kernel
theorem dL_law_113 : decode cL_law 113 = .ok (.bipush 60, 2) := by decide +kernel
theorem dL_law_115 : decode cL_law 115 = .ok (.irem, 1) := by decide +kernel
theorem dL_law_116 : decode cL_law 116 = .ok (.invokevirtual 50, 3) := by decide +kernel
theorem dL_law_119 : decode cL_law 119 = .ok (.iload 4, 2) := by decide +kernel
theorem dL_law_121 : decode cL_law 121 = .ok (.if_icmp .ne 7, 3) := by decide +kernel
theorem dL_law_124 : decode cL_law 124 = .ok (.iconst 1, 1) := by decide +kernel
theorem dL_law_125 : decode cL_law 125 = .ok (.goto 4, 3) := by decide +kernel
theorem dL_law_128 : decode cL_law 128 = .ok (.iconst 0, 1) := by decide +kernel
theorem dL_law_129 : decode cL_law 129 = .ok (.istore_n 2, 1) := by decide +kernel
theorem dL_law_130 : decode cL_law 130 = .ok (.iinc 4 1, 3) := by decide +kernel
theorem dL_law_133 : decode cL_law 133 = .ok (.goto (-84), 3) := by decide +kernel
theorem dL_law_136 : decode cL_law 136 = .ok (.iconst 3, 1) := by decide +kernel
theorem dL_law_137 : decode cL_law 137 = .ok (.aload_n 0, 1) := by decide +kernel
theorem dL_law_138 : decode cL_law 138 = .ok (.iconst 4, 1) := by decide +kernel
theorem dL_law_139 : decode cL_law 139 = .ok (.invokestatic 44, 3) := by decide +kernel
theorem dL_law_142 : decode cL_law 142 = .ok (.bipush 6, 2) := by decide +kernel
theorem dL_law_144 : decode cL_law 144 = .ok (.irem, 1) := by decide +kernel
theorem dL_law_145 : decode cL_law 145 = .ok (.iadd, 1) := by decide +kernel
theorem dL_law_146 : decode cL_law 146 = .ok (.istore 4, 2) := by decide +kernel
theorem dL_law_148 : decode cL_law 148 = .ok (.iconst 0, 1) := by decide +kernel
theorem dL_law_149 : decode cL_law 149 = .ok (.istore 5, 2) := by decide +kernel
theorem dL_law_151 : decode cL_law 151 = .ok (.iload 5, 2) := by decide +kernel
theorem dL_law_153 : decode cL_law 153 = .ok (.iload 4, 2) := by decide +kernel
theorem dL_law_155 : decode cL_law 155 = .ok (.if_icmp .ge 118, 3) := by decide +kernel
theorem dL_law_158 : decode cL_law 158 = .ok (.iload_n 2, 1) := by decide +kernel
theorem dL_law_159 : decode cL_law 159 = .ok (.ifCond .eq 114, 3) := by decide +kernel
theorem dL_law_162 : decode cL_law 162 = .ok (.aload_n 0, 1) := by decide +kernel
theorem dL_law_163 : decode cL_law 163 = .ok (.iconst 5, 1) := by decide +kernel
theorem dL_law_164 : decode cL_law 164 = .ok (.iload 5, 2) := by decide +kernel
theorem dL_law_166 : decode cL_law 166 = .ok (.iadd, 1) := by decide +kernel
theorem dL_law_167 : decode cL_law 167 = .ok (.invokestatic 44, 3) := by decide +kernel
theorem dL_law_170 : decode cL_law 170 = .ok (.istore 6, 2) := by decide +kernel
theorem dL_law_172 : decode cL_law 172 = .ok (.aload_n 0, 1) := by decide +kernel
theorem dL_law_173 : decode cL_law 173 = .ok (.bipush 13, 2) := by decide +kernel
theorem dL_law_175 : decode cL_law 175 = .ok (.iload 5, 2) := by decide +kernel
theorem dL_law_177 : decode cL_law 177 = .ok (.iadd, 1) := by decide +kernel
theorem dL_law_178 : decode cL_law 178 = .ok (.invokestatic 44, 3) := by decide +kernel
theorem dL_law_181 : decode cL_law 181 = .ok (.istore 7, 2) := by decide +kernel
theorem dL_law_183 : decode cL_law 183 = .ok (.iload 6, 2) := by decide +kernel
theorem dL_law_185 : decode cL_law 185 = .ok (.bipush 8, 2) := by decide +kernel
theorem dL_law_187 : decode cL_law 187 = .ok (.irem, 1) := by decide +kernel
theorem dL_law_188 : decode cL_law 188 = .ok (.istore 8, 2) := by decide +kernel
theorem dL_law_190 : decode cL_law 190 = .ok (.iload 7, 2) := by decide +kernel
theorem dL_law_192 : decode cL_law 192 = .ok (.sipush 150, 3) := by decide +kernel
theorem dL_law_195 : decode cL_law 195 = .ok (.irem, 1) := by decide +kernel
theorem dL_law_196 : decode cL_law 196 = .ok (.istore 9, 2) := by decide +kernel
theorem dL_law_198 : decode cL_law 198 = .ok (.aload_n 1, 1) := by decide +kernel
theorem dL_law_199 : decode cL_law 199 = .ok (.iconst 1, 1) := by decide +kernel
theorem dL_law_200 : decode cL_law 200 = .ok (.iload 6, 2) := by decide +kernel
theorem dL_law_202 : decode cL_law 202 = .ok (.bipush 8, 2) := by decide +kernel
theorem dL_law_204 : decode cL_law 204 = .ok (.idiv, 1) := by decide +kernel
theorem dL_law_205 : decode cL_law 205 = .ok (.bipush 99, 2) := by decide +kernel
theorem dL_law_207 : decode cL_law 207 = .ok (.irem, 1) := by decide +kernel
theorem dL_law_208 : decode cL_law 208 = .ok (.iadd, 1) := by decide +kernel
theorem dL_law_209 : decode cL_law 209 = .ok (.iload 8, 2) := by decide +kernel
theorem dL_law_211 : decode cL_law 211 = .ok (.iload 8, 2) := by decide +kernel
theorem dL_law_213 : decode cL_law 213 = .ok (.iconst 1, 1) := by decide +kernel
theorem dL_law_214 : decode cL_law 214 = .ok (.iadd, 1) := by decide +kernel
theorem dL_law_215 : decode cL_law 215 = .ok (.iload 6, 2) := by decide +kernel
theorem dL_law_217 : decode cL_law 217 = .ok (.sipush 1024, 3) := by decide +kernel
theorem dL_law_220 : decode cL_law 220 = .ok (.idiv, 1) := by decide +kernel
theorem dL_law_221 : decode cL_law 221 = .ok (.bipush 7, 2) := by decide +kernel
theorem dL_law_223 : decode cL_law 223 = .ok (.irem, 1) := by decide +kernel
theorem dL_law_224 : decode cL_law 224 = .ok (.iadd, 1) := by decide +kernel
theorem dL_law_225 : decode cL_law 225 = .ok (.bipush 8, 2) := by decide +kernel
theorem dL_law_227 : decode cL_law 227 = .ok (.irem, 1) := by decide +kernel
theorem dL_law_228 : decode cL_law 228 = .ok (.iload 9, 2) := by decide +kernel
theorem dL_law_230 : decode cL_law 230 = .ok (.iload 9, 2) := by decide +kernel
theorem dL_law_232 : decode cL_law 232 = .ok (.iload 7, 2) := by decide +kernel
theorem dL_law_234 : decode cL_law 234 = .ok (.sipush 256, 3) := by decide +kernel
theorem dL_law_237 : decode cL_law 237 = .ok (.idiv, 1) := by decide +kernel
theorem dL_law_238 : decode cL_law 238 = .ok (.bipush 60, 2) := by decide +kernel
theorem dL_law_240 : decode cL_law 240 = .ok (.irem, 1) := by decide +kernel
theorem dL_law_241 : decode cL_law 241 = .ok (.iadd, 1) := by decide +kernel
theorem dL_law_242 : decode cL_law 242 = .ok (.iconst 1, 1) := by decide +kernel
theorem dL_law_243 : decode cL_law 243 = .ok (.iload 7, 2) := by decide +kernel
theorem dL_law_245 : decode cL_law 245 = .ok (.sipush 16384, 3) := by decide +kernel
theorem dL_law_248 : decode cL_law 248 = .ok (.idiv, 1) := by decide +kernel
theorem dL_law_249 : decode cL_law 249 = .ok (.bipush 99, 2) := by decide +kernel
theorem dL_law_251 : decode cL_law 251 = .ok (.irem, 1) := by decide +kernel
theorem dL_law_252 : decode cL_law 252 = .ok (.iadd, 1) := by decide +kernel
theorem dL_law_253 : decode cL_law 253 = .ok (.invokevirtual 54, 3) := by decide +kernel
theorem dL_law_256 : decode cL_law 256 = .ok (.iload 5, 2) := by decide +kernel
theorem dL_law_258 : decode cL_law 258 = .ok (.if_icmp .ne 7, 3) := by decide +kernel
theorem dL_law_261 : decode cL_law 261 = .ok (.iconst 1, 1) := by decide +kernel
theorem dL_law_262 : decode cL_law 262 = .ok (.goto 4, 3) := by decide +kernel
theorem dL_law_265 : decode cL_law 265 = .ok (.iconst 0, 1) := by decide +kernel
theorem dL_law_266 : decode cL_law 266 = .ok (.istore_n 2, 1) := by decide +kernel
theorem dL_law_267 : decode cL_law 267 = .ok (.iinc 5 1, 3) := by decide +kernel
theorem dL_law_270 : decode cL_law 270 = .ok (.goto (-119), 3) := by decide +kernel
theorem dL_law_273 : decode cL_law 273 = .ok (.iconst 0, 1) := by decide +kernel
theorem dL_law_274 : decode cL_law 274 = .ok (.istore 5, 2) := by decide +kernel
theorem dL_law_276 : decode cL_law 276 = .ok (.iload 5, 2) := by decide +kernel
theorem dL_law_278 : decode cL_law 278 = .ok (.bipush 24, 2) := by decide +kernel
theorem dL_law_280 : decode cL_law 280 = .ok (.if_icmp .ge 721, 3) := by decide +kernel
theorem dL_law_283 : decode cL_law 283 = .ok (.iload_n 2, 1) := by decide +kernel
theorem dL_law_284 : decode cL_law 284 = .ok (.ifCond .eq 717, 3) := by decide +kernel
theorem dL_law_287 : decode cL_law 287 = .ok (.aload_n 0, 1) := by decide +kernel
theorem dL_law_288 : decode cL_law 288 = .ok (.bipush 21, 2) := by decide +kernel
theorem dL_law_290 : decode cL_law 290 = .ok (.iload 5, 2) := by decide +kernel
theorem dL_law_292 : decode cL_law 292 = .ok (.iadd, 1) := by decide +kernel
theorem dL_law_293 : decode cL_law 293 = .ok (.invokestatic 44, 3) := by decide +kernel
theorem dL_law_296 : decode cL_law 296 = .ok (.istore 6, 2) := by decide +kernel
theorem dL_law_298 : decode cL_law 298 = .ok (.iload 6, 2) := by decide +kernel
theorem dL_law_300 : decode cL_law 300 = .ok (.bipush 8, 2) := by decide +kernel
theorem dL_law_302 : decode cL_law 302 = .ok (.idiv, 1) := by decide +kernel
theorem dL_law_303 : decode cL_law 303 = .ok (.iload_n 3, 1) := by decide +kernel
theorem dL_law_304 : decode cL_law 304 = .ok (.irem, 1) := by decide +kernel
theorem dL_law_305 : decode cL_law 305 = .ok (.istore 7, 2) := by decide +kernel
theorem dL_law_307 : decode cL_law 307 = .ok (.iload 6, 2) := by decide +kernel
theorem dL_law_309 : decode cL_law 309 = .ok (.bipush 64, 2) := by decide +kernel
theorem dL_law_311 : decode cL_law 311 = .ok (.idiv, 1) := by decide +kernel
theorem dL_law_312 : decode cL_law 312 = .ok (.iload 4, 2) := by decide +kernel
theorem dL_law_314 : decode cL_law 314 = .ok (.irem, 1) := by decide +kernel
theorem dL_law_315 : decode cL_law 315 = .ok (.istore 8, 2) := by decide +kernel
theorem dL_law_317 : decode cL_law 317 = .ok (.aload_n 1, 1) := by decide +kernel
theorem dL_law_318 : decode cL_law 318 = .ok (.iload 7, 2) := by decide +kernel
theorem dL_law_320 : decode cL_law 320 = .ok (.bipush 7, 2) := by decide +kernel
theorem dL_law_322 : decode cL_law 322 = .ok (.invokevirtual 8, 3) := by decide +kernel
theorem dL_law_325 : decode cL_law 325 = .ok (.istore 9, 2) := by decide +kernel
theorem dL_law_327 : decode cL_law 327 = .ok (.iload 6, 2) := by decide +kernel
theorem dL_law_329 : decode cL_law 329 = .ok (.bipush 8, 2) := by decide +kernel
theorem dL_law_331 : decode cL_law 331 = .ok (.irem, 1) := by decide +kernel
theorem dL_law_332 : decode cL_law 332 = .ok (.tableswitch 489 0 2 #[28, 171, 340], 28) := by decide +kernel
theorem dL_law_360 : decode cL_law 360 = .ok (.aload_n 1, 1) := by decide +kernel
theorem dL_law_361 : decode cL_law 361 = .ok (.iconst 5, 1) := by decide +kernel
theorem dL_law_362 : decode cL_law 362 = .ok (.invokevirtual 30, 3) := by decide +kernel
theorem dL_law_365 : decode cL_law 365 = .ok (.istore 10, 2) := by decide +kernel
theorem dL_law_367 : decode cL_law 367 = .ok (.iconst 1, 1) := by decide +kernel
theorem dL_law_368 : decode cL_law 368 = .ok (.iload 6, 2) := by decide +kernel
theorem dL_law_370 : decode cL_law 370 = .ok (.sipush 1024, 3) := by decide +kernel
theorem dL_law_373 : decode cL_law 373 = .ok (.idiv, 1) := by decide +kernel
theorem dL_law_374 : decode cL_law 374 = .ok (.bipush 40, 2) := by decide +kernel
theorem dL_law_376 : decode cL_law 376 = .ok (.irem, 1) := by decide +kernel
theorem dL_law_377 : decode cL_law 377 = .ok (.iadd, 1) := by decide +kernel
theorem dL_law_378 : decode cL_law 378 = .ok (.istore 11, 2) := by decide +kernel
theorem dL_law_380 : decode cL_law 380 = .ok (.aload_n 1, 1) := by decide +kernel
theorem dL_law_381 : decode cL_law 381 = .ok (.iload 7, 2) := by decide +kernel
theorem dL_law_383 : decode cL_law 383 = .ok (.invokevirtual 26, 3) := by decide +kernel
theorem dL_law_386 : decode cL_law 386 = .ok (.istore 12, 2) := by decide +kernel
theorem dL_law_388 : decode cL_law 388 = .ok (.aload_n 1, 1) := by decide +kernel
theorem dL_law_389 : decode cL_law 389 = .ok (.iload 7, 2) := by decide +kernel
theorem dL_law_391 : decode cL_law 391 = .ok (.iload 11, 2) := by decide +kernel
theorem dL_law_393 : decode cL_law 393 = .ok (.invokevirtual 58, 3) := by decide +kernel
theorem dL_law_396 : decode cL_law 396 = .ok (.istore 13, 2) := by decide +kernel
theorem dL_law_398 : decode cL_law 398 = .ok (.iload 13, 2) := by decide +kernel
theorem dL_law_400 : decode cL_law 400 = .ok (.ifCond .lt 70, 3) := by decide +kernel
theorem dL_law_403 : decode cL_law 403 = .ok (.aload_n 1, 1) := by decide +kernel
theorem dL_law_404 : decode cL_law 404 = .ok (.iconst 5, 1) := by decide +kernel
theorem dL_law_405 : decode cL_law 405 = .ok (.invokevirtual 30, 3) := by decide +kernel
theorem dL_law_408 : decode cL_law 408 = .ok (.iload 10, 2) := by decide +kernel
theorem dL_law_410 : decode cL_law 410 = .ok (.iload 13, 2) := by decide +kernel
theorem dL_law_412 : decode cL_law 412 = .ok (.iadd, 1) := by decide +kernel
theorem dL_law_413 : decode cL_law 413 = .ok (.if_icmp .ne 53, 3) := by decide +kernel
theorem dL_law_416 : decode cL_law 416 = .ok (.aload_n 1, 1) := by decide +kernel
theorem dL_law_417 : decode cL_law 417 = .ok (.iload 7, 2) := by decide +kernel
theorem dL_law_419 : decode cL_law 419 = .ok (.bipush 7, 2) := by decide +kernel
theorem dL_law_421 : decode cL_law 421 = .ok (.invokevirtual 8, 3) := by decide +kernel
theorem dL_law_424 : decode cL_law 424 = .ok (.iload 9, 2) := by decide +kernel
theorem dL_law_426 : decode cL_law 426 = .ok (.iload 13, 2) := by decide +kernel
theorem dL_law_428 : decode cL_law 428 = .ok (.isub, 1) := by decide +kernel
theorem dL_law_429 : decode cL_law 429 = .ok (.if_icmp .ne 37, 3) := by decide +kernel
theorem dL_law_432 : decode cL_law 432 = .ok (.iload 9, 2) := by decide +kernel
theorem dL_law_434 : decode cL_law 434 = .ok (.ifCond .eq 28, 3) := by decide +kernel
theorem dL_law_437 : decode cL_law 437 = .ok (.iload 13, 2) := by decide +kernel
theorem dL_law_439 : decode cL_law 439 = .ok (.ifCond .ne 7, 3) := by decide +kernel
theorem dL_law_442 : decode cL_law 442 = .ok (.iconst 1, 1) := by decide +kernel
theorem dL_law_443 : decode cL_law 443 = .ok (.goto 4, 3) := by decide +kernel
theorem dL_law_446 : decode cL_law 446 = .ok (.iconst 0, 1) := by decide +kernel
theorem dL_law_447 : decode cL_law 447 = .ok (.iload 11, 2) := by decide +kernel
theorem dL_law_449 : decode cL_law 449 = .ok (.iload 12, 2) := by decide +kernel
theorem dL_law_451 : decode cL_law 451 = .ok (.if_icmp .gt 7, 3) := by decide +kernel
theorem dL_law_454 : decode cL_law 454 = .ok (.iconst 1, 1) := by decide +kernel
theorem dL_law_455 : decode cL_law 455 = .ok (.goto 4, 3) := by decide +kernel
theorem dL_law_458 : decode cL_law 458 = .ok (.iconst 0, 1) := by decide +kernel
theorem dL_law_459 : decode cL_law 459 = .ok (.if_icmp .ne 7, 3) := by decide +kernel
theorem dL_law_462 : decode cL_law 462 = .ok (.iconst 1, 1) := by decide +kernel
theorem dL_law_463 : decode cL_law 463 = .ok (.goto 36, 3) := by decide +kernel
theorem dL_law_466 : decode cL_law 466 = .ok (.iconst 0, 1) := by decide +kernel
theorem dL_law_467 : decode cL_law 467 = .ok (.goto 32, 3) := by decide +kernel
theorem dL_law_470 : decode cL_law 470 = .ok (.iload 13, 2) := by decide +kernel
theorem dL_law_472 : decode cL_law 472 = .ok (.ldc 61, 2) := by decide +kernel
theorem dL_law_474 : decode cL_law 474 = .ok (.if_icmp .ne 24, 3) := by decide +kernel
theorem dL_law_477 : decode cL_law 477 = .ok (.aload_n 1, 1) := by decide +kernel
theorem dL_law_478 : decode cL_law 478 = .ok (.iload 7, 2) := by decide +kernel
theorem dL_law_480 : decode cL_law 480 = .ok (.bipush 6, 2) := by decide +kernel
theorem dL_law_482 : decode cL_law 482 = .ok (.invokevirtual 8, 3) := by decide +kernel
theorem dL_law_485 : decode cL_law 485 = .ok (.iload 11, 2) := by decide +kernel
theorem dL_law_487 : decode cL_law 487 = .ok (.iadd, 1) := by decide +kernel
theorem dL_law_488 : decode cL_law 488 = .ok (.sipush 1999, 3) := by decide +kernel
theorem dL_law_491 : decode cL_law 491 = .ok (.if_icmp .le 7, 3) := by decide +kernel
theorem dL_law_494 : decode cL_law 494 = .ok (.iconst 1, 1) := by decide +kernel
theorem dL_law_495 : decode cL_law 495 = .ok (.goto 4, 3) := by decide +kernel
theorem dL_law_498 : decode cL_law 498 = .ok (.iconst 0, 1) := by decide +kernel
theorem dL_law_499 : decode cL_law 499 = .ok (.istore_n 2, 1) := by decide +kernel
theorem dL_law_500 : decode cL_law 500 = .ok (.goto 478, 3) := by decide +kernel
theorem dL_law_503 : decode cL_law 503 = .ok (.iload 9, 2) := by decide +kernel
theorem dL_law_505 : decode cL_law 505 = .ok (.ifCond .ne 23, 3) := by decide +kernel
theorem dL_law_508 : decode cL_law 508 = .ok (.aload_n 1, 1) := by decide +kernel
theorem dL_law_509 : decode cL_law 509 = .ok (.iload 7, 2) := by decide +kernel
theorem dL_law_511 : decode cL_law 511 = .ok (.invokevirtual 62, 3) := by decide +kernel
theorem dL_law_514 : decode cL_law 514 = .ok (.ldc 65, 2) := by decide +kernel
theorem dL_law_516 : decode cL_law 516 = .ok (.if_icmp .ne 7, 3) := by decide +kernel
theorem dL_law_519 : decode cL_law 519 = .ok (.iconst 1, 1) := by decide +kernel
theorem dL_law_520 : decode cL_law 520 = .ok (.goto 4, 3) := by decide +kernel
theorem dL_law_523 : decode cL_law 523 = .ok (.iconst 0, 1) := by decide +kernel
theorem dL_law_524 : decode cL_law 524 = .ok (.istore_n 2, 1) := by decide +kernel
theorem dL_law_525 : decode cL_law 525 = .ok (.goto 453, 3) := by decide +kernel
theorem dL_law_528 : decode cL_law 528 = .ok (.aload_n 1, 1) := by decide +kernel
theorem dL_law_529 : decode cL_law 529 = .ok (.iload 7, 2) := by decide +kernel
theorem dL_law_531 : decode cL_law 531 = .ok (.iload 9, 2) := by decide +kernel
theorem dL_law_533 : decode cL_law 533 = .ok (.iconst 1, 1) := by decide +kernel
theorem dL_law_534 : decode cL_law 534 = .ok (.isub, 1) := by decide +kernel
theorem dL_law_535 : decode cL_law 535 = .ok (.iconst 0, 1) := by decide +kernel
theorem dL_law_536 : decode cL_law 536 = .ok (.invokevirtual 14, 3) := by decide +kernel
theorem dL_law_539 : decode cL_law 539 = .ok (.istore 14, 2) := by decide +kernel
theorem dL_law_541 : decode cL_law 541 = .ok (.aload_n 1, 1) := by decide +kernel
theorem dL_law_542 : decode cL_law 542 = .ok (.iload 14, 2) := by decide +kernel
theorem dL_law_544 : decode cL_law 544 = .ok (.iconst 0, 1) := by decide +kernel
theorem dL_law_545 : decode cL_law 545 = .ok (.invokevirtual 19, 3) := by decide +kernel
theorem dL_law_548 : decode cL_law 548 = .ok (.aload_n 1, 1) := by decide +kernel
theorem dL_law_549 : decode cL_law 549 = .ok (.iload 14, 2) := by decide +kernel
theorem dL_law_551 : decode cL_law 551 = .ok (.iconst 5, 1) := by decide +kernel
theorem dL_law_552 : decode cL_law 552 = .ok (.invokevirtual 19, 3) := by decide +kernel
theorem dL_law_555 : decode cL_law 555 = .ok (.imul, 1) := by decide +kernel
theorem dL_law_556 : decode cL_law 556 = .ok (.bipush 9, 2) := by decide +kernel
theorem dL_law_558 : decode cL_law 558 = .ok (.iadd, 1) := by decide +kernel
theorem dL_law_559 : decode cL_law 559 = .ok (.bipush 10, 2) := by decide +kernel
theorem dL_law_561 : decode cL_law 561 = .ok (.idiv, 1) := by decide +kernel
theorem dL_law_562 : decode cL_law 562 = .ok (.istore 15, 2) := by decide +kernel
theorem dL_law_564 : decode cL_law 564 = .ok (.aload_n 1, 1) := by decide +kernel
theorem dL_law_565 : decode cL_law 565 = .ok (.iload 7, 2) := by decide +kernel
theorem dL_law_567 : decode cL_law 567 = .ok (.bipush 8, 2) := by decide +kernel
theorem dL_law_569 : decode cL_law 569 = .ok (.invokevirtual 8, 3) := by decide +kernel
theorem dL_law_572 : decode cL_law 572 = .ok (.istore 16, 2) := by decide +kernel
theorem dL_law_574 : decode cL_law 574 = .ok (.aload_n 1, 1) := by decide +kernel
theorem dL_law_575 : decode cL_law 575 = .ok (.bipush 6, 2) := by decide +kernel
theorem dL_law_577 : decode cL_law 577 = .ok (.invokevirtual 30, 3) := by decide +kernel
theorem dL_law_580 : decode cL_law 580 = .ok (.istore 17, 2) := by decide +kernel
theorem dL_law_582 : decode cL_law 582 = .ok (.aload_n 1, 1) := by decide +kernel
theorem dL_law_583 : decode cL_law 583 = .ok (.iload 7, 2) := by decide +kernel
theorem dL_law_585 : decode cL_law 585 = .ok (.invokevirtual 62, 3) := by decide +kernel
theorem dL_law_588 : decode cL_law 588 = .ok (.iload 15, 2) := by decide +kernel
theorem dL_law_590 : decode cL_law 590 = .ok (.if_icmp .ne 77, 3) := by decide +kernel
theorem dL_law_593 : decode cL_law 593 = .ok (.aload_n 1, 1) := by decide +kernel
theorem dL_law_594 : decode cL_law 594 = .ok (.iload 7, 2) := by decide +kernel
theorem dL_law_596 : decode cL_law 596 = .ok (.bipush 8, 2) := by decide +kernel
theorem dL_law_598 : decode cL_law 598 = .ok (.invokevirtual 8, 3) := by decide +kernel
theorem dL_law_601 : decode cL_law 601 = .ok (.iload 16, 2) := by decide +kernel
theorem dL_law_603 : decode cL_law 603 = .ok (.iload 15, 2) := by decide +kernel
theorem dL_law_605 : decode cL_law 605 = .ok (.isub, 1) := by decide +kernel
theorem dL_law_606 : decode cL_law 606 = .ok (.if_icmp .ne 61, 3) := by decide +kernel
theorem dL_law_609 : decode cL_law 609 = .ok (.aload_n 1, 1) := by decide +kernel
theorem dL_law_610 : decode cL_law 610 = .ok (.iload 14, 2) := by decide +kernel
theorem dL_law_612 : decode cL_law 612 = .ok (.bipush 6, 2) := by decide +kernel
theorem dL_law_614 : decode cL_law 614 = .ok (.invokevirtual 19, 3) := by decide +kernel
theorem dL_law_617 : decode cL_law 617 = .ok (.ifCond .ne 50, 3) := by decide +kernel
theorem dL_law_620 : decode cL_law 620 = .ok (.aload_n 1, 1) := by decide +kernel
theorem dL_law_621 : decode cL_law 621 = .ok (.bipush 6, 2) := by decide +kernel
theorem dL_law_623 : decode cL_law 623 = .ok (.invokevirtual 30, 3) := by decide +kernel
theorem dL_law_626 : decode cL_law 626 = .ok (.iload 17, 2) := by decide +kernel
theorem dL_law_628 : decode cL_law 628 = .ok (.iconst 1, 1) := by decide +kernel
theorem dL_law_629 : decode cL_law 629 = .ok (.iadd, 1) := by decide +kernel
theorem dL_law_630 : decode cL_law 630 = .ok (.if_icmp .ne 37, 3) := by decide +kernel
theorem dL_law_633 : decode cL_law 633 = .ok (.aload_n 1, 1) := by decide +kernel
theorem dL_law_634 : decode cL_law 634 = .ok (.iload 7, 2) := by decide +kernel
theorem dL_law_636 : decode cL_law 636 = .ok (.iload 14, 2) := by decide +kernel
theorem dL_law_638 : decode cL_law 638 = .ok (.iconst 0, 1) := by decide +kernel
theorem dL_law_639 : decode cL_law 639 = .ok (.invokevirtual 66, 3) := by decide +kernel
theorem dL_law_642 : decode cL_law 642 = .ok (.ifCond .ne 25, 3) := by decide +kernel
theorem dL_law_645 : decode cL_law 645 = .ok (.aload_n 1, 1) := by decide +kernel
theorem dL_law_646 : decode cL_law 646 = .ok (.iload 7, 2) := by decide +kernel
theorem dL_law_648 : decode cL_law 648 = .ok (.iload 14, 2) := by decide +kernel
theorem dL_law_650 : decode cL_law 650 = .ok (.invokevirtual 69, 3) := by decide +kernel
theorem dL_law_653 : decode cL_law 653 = .ok (.ifCond .le 14, 3) := by decide +kernel
theorem dL_law_656 : decode cL_law 656 = .ok (.aload_n 1, 1) := by decide +kernel
theorem dL_law_657 : decode cL_law 657 = .ok (.invokevirtual 72, 3) := by decide +kernel
theorem dL_law_660 : decode cL_law 660 = .ok (.ifCond .lt 7, 3) := by decide +kernel
theorem dL_law_663 : decode cL_law 663 = .ok (.iconst 1, 1) := by decide +kernel
theorem dL_law_664 : decode cL_law 664 = .ok (.goto 4, 3) := by decide +kernel
theorem dL_law_667 : decode cL_law 667 = .ok (.iconst 0, 1) := by decide +kernel
theorem dL_law_668 : decode cL_law 668 = .ok (.istore_n 2, 1) := by decide +kernel
theorem dL_law_669 : decode cL_law 669 = .ok (.goto 309, 3) := by decide +kernel
theorem dL_law_672 : decode cL_law 672 = .ok (.iload 9, 2) := by decide +kernel
theorem dL_law_674 : decode cL_law 674 = .ok (.ifCond .ne 23, 3) := by decide +kernel
theorem dL_law_677 : decode cL_law 677 = .ok (.aload_n 1, 1) := by decide +kernel
theorem dL_law_678 : decode cL_law 678 = .ok (.iload 7, 2) := by decide +kernel
theorem dL_law_680 : decode cL_law 680 = .ok (.invokevirtual 76, 3) := by decide +kernel
theorem dL_law_683 : decode cL_law 683 = .ok (.ldc 65, 2) := by decide +kernel
theorem dL_law_685 : decode cL_law 685 = .ok (.if_icmp .ne 7, 3) := by decide +kernel
theorem dL_law_688 : decode cL_law 688 = .ok (.iconst 1, 1) := by decide +kernel
theorem dL_law_689 : decode cL_law 689 = .ok (.goto 4, 3) := by decide +kernel
theorem dL_law_692 : decode cL_law 692 = .ok (.iconst 0, 1) := by decide +kernel
theorem dL_law_693 : decode cL_law 693 = .ok (.istore_n 2, 1) := by decide +kernel
theorem dL_law_694 : decode cL_law 694 = .ok (.goto 284, 3) := by decide +kernel
theorem dL_law_697 : decode cL_law 697 = .ok (.iload 6, 2) := by decide +kernel
theorem dL_law_699 : decode cL_law 699 = .ok (.sipush 4096, 3) := by decide +kernel
theorem dL_law_702 : decode cL_law 702 = .ok (.idiv, 1) := by decide +kernel
theorem dL_law_703 : decode cL_law 703 = .ok (.iconst 3, 1) := by decide +kernel
theorem dL_law_704 : decode cL_law 704 = .ok (.irem, 1) := by decide +kernel
theorem dL_law_705 : decode cL_law 705 = .ok (.ifCond .ne 273, 3) := by decide +kernel
theorem dL_law_708 : decode cL_law 708 = .ok (.aload_n 1, 1) := by decide +kernel
theorem dL_law_709 : decode cL_law 709 = .ok (.iload 7, 2) := by decide +kernel
theorem dL_law_711 : decode cL_law 711 = .ok (.bipush 8, 2) := by decide +kernel
theorem dL_law_713 : decode cL_law 713 = .ok (.invokevirtual 8, 3) := by decide +kernel
theorem dL_law_716 : decode cL_law 716 = .ok (.istore 14, 2) := by decide +kernel
theorem dL_law_718 : decode cL_law 718 = .ok (.aload_n 1, 1) := by decide +kernel
theorem dL_law_719 : decode cL_law 719 = .ok (.iload 7, 2) := by decide +kernel
theorem dL_law_721 : decode cL_law 721 = .ok (.bipush 9, 2) := by decide +kernel
theorem dL_law_723 : decode cL_law 723 = .ok (.invokevirtual 8, 3) := by decide +kernel
theorem dL_law_726 : decode cL_law 726 = .ok (.istore 15, 2) := by decide +kernel
theorem dL_law_728 : decode cL_law 728 = .ok (.aload_n 1, 1) := by decide +kernel
theorem dL_law_729 : decode cL_law 729 = .ok (.iload 7, 2) := by decide +kernel
theorem dL_law_731 : decode cL_law 731 = .ok (.iconst 3, 1) := by decide +kernel
theorem dL_law_732 : decode cL_law 732 = .ok (.invokevirtual 8, 3) := by decide +kernel
theorem dL_law_735 : decode cL_law 735 = .ok (.istore 16, 2) := by decide +kernel
theorem dL_law_737 : decode cL_law 737 = .ok (.aload_n 1, 1) := by decide +kernel
theorem dL_law_738 : decode cL_law 738 = .ok (.iload 7, 2) := by decide +kernel
theorem dL_law_740 : decode cL_law 740 = .ok (.iconst 4, 1) := by decide +kernel
theorem dL_law_741 : decode cL_law 741 = .ok (.invokevirtual 8, 3) := by decide +kernel
theorem dL_law_744 : decode cL_law 744 = .ok (.istore 17, 2) := by decide +kernel
theorem dL_law_746 : decode cL_law 746 = .ok (.aload_n 1, 1) := by decide +kernel
theorem dL_law_747 : decode cL_law 747 = .ok (.iload 7, 2) := by decide +kernel
theorem dL_law_749 : decode cL_law 749 = .ok (.invokevirtual 76, 3) := by decide +kernel
theorem dL_law_752 : decode cL_law 752 = .ok (.iload 15, 2) := by decide +kernel
theorem dL_law_754 : decode cL_law 754 = .ok (.if_icmp .ne 62, 3) := by decide +kernel
theorem dL_law_757 : decode cL_law 757 = .ok (.aload_n 1, 1) := by decide +kernel
theorem dL_law_758 : decode cL_law 758 = .ok (.iload 7, 2) := by decide +kernel
theorem dL_law_760 : decode cL_law 760 = .ok (.bipush 8, 2) := by decide +kernel
theorem dL_law_762 : decode cL_law 762 = .ok (.invokevirtual 8, 3) := by decide +kernel
theorem dL_law_765 : decode cL_law 765 = .ok (.iload 14, 2) := by decide +kernel
theorem dL_law_767 : decode cL_law 767 = .ok (.iload 15, 2) := by decide +kernel
theorem dL_law_769 : decode cL_law 769 = .ok (.iadd, 1) := by decide +kernel
theorem dL_law_770 : decode cL_law 770 = .ok (.ldc 25, 2) := by decide +kernel
theorem dL_law_772 : decode cL_law 772 = .ok (.isub, 1) := by decide +kernel
theorem dL_law_773 : decode cL_law 773 = .ok (.if_icmp .ne 43, 3) := by decide +kernel
theorem dL_law_776 : decode cL_law 776 = .ok (.aload_n 1, 1) := by decide +kernel
theorem dL_law_777 : decode cL_law 777 = .ok (.iload 7, 2) := by decide +kernel
theorem dL_law_779 : decode cL_law 779 = .ok (.iconst 5, 1) := by decide +kernel
theorem dL_law_780 : decode cL_law 780 = .ok (.invokevirtual 8, 3) := by decide +kernel
theorem dL_law_783 : decode cL_law 783 = .ok (.iload 16, 2) := by decide +kernel
theorem dL_law_785 : decode cL_law 785 = .ok (.if_icmp .ne 31, 3) := by decide +kernel
theorem dL_law_788 : decode cL_law 788 = .ok (.aload_n 1, 1) := by decide +kernel
theorem dL_law_789 : decode cL_law 789 = .ok (.iload 7, 2) := by decide +kernel
theorem dL_law_791 : decode cL_law 791 = .ok (.bipush 6, 2) := by decide +kernel
theorem dL_law_793 : decode cL_law 793 = .ok (.invokevirtual 8, 3) := by decide +kernel
theorem dL_law_796 : decode cL_law 796 = .ok (.iload 17, 2) := by decide +kernel
theorem dL_law_798 : decode cL_law 798 = .ok (.if_icmp .ne 18, 3) := by decide +kernel
theorem dL_law_801 : decode cL_law 801 = .ok (.aload_n 1, 1) := by decide +kernel
theorem dL_law_802 : decode cL_law 802 = .ok (.iload 7, 2) := by decide +kernel
theorem dL_law_804 : decode cL_law 804 = .ok (.bipush 7, 2) := by decide +kernel
theorem dL_law_806 : decode cL_law 806 = .ok (.invokevirtual 8, 3) := by decide +kernel
theorem dL_law_809 : decode cL_law 809 = .ok (.ifCond .ne 7, 3) := by decide +kernel
theorem dL_law_812 : decode cL_law 812 = .ok (.iconst 1, 1) := by decide +kernel
theorem dL_law_813 : decode cL_law 813 = .ok (.goto 4, 3) := by decide +kernel
theorem dL_law_816 : decode cL_law 816 = .ok (.iconst 0, 1) := by decide +kernel
theorem dL_law_817 : decode cL_law 817 = .ok (.istore_n 2, 1) := by decide +kernel
theorem dL_law_818 : decode cL_law 818 = .ok (.goto 160, 3) := by decide +kernel
theorem dL_law_821 : decode cL_law 821 = .ok (.iload 6, 2) := by decide +kernel
theorem dL_law_823 : decode cL_law 823 = .ok (.iconst 2, 1) := by decide +kernel
theorem dL_law_824 : decode cL_law 824 = .ok (.irem, 1) := by decide +kernel
theorem dL_law_825 : decode cL_law 825 = .ok (.ifCond .ne 12, 3) := by decide +kernel
theorem dL_law_828 : decode cL_law 828 = .ok (.aload_n 1, 1) := by decide +kernel
theorem dL_law_829 : decode cL_law 829 = .ok (.iload 7, 2) := by decide +kernel
theorem dL_law_831 : decode cL_law 831 = .ok (.invokevirtual 40, 3) := by decide +kernel
theorem dL_law_834 : decode cL_law 834 = .ok (.goto 5, 3) := by decide +kernel
theorem dL_law_837 : decode cL_law 837 = .ok (.iload 8, 2) := by decide +kernel
theorem dL_law_839 : decode cL_law 839 = .ok (.istore 14, 2) := by decide +kernel
theorem dL_law_841 : decode cL_law 841 = .ok (.iload 14, 2) := by decide +kernel
theorem dL_law_843 : decode cL_law 843 = .ok (.ifCond .ge 19, 3) := by decide +kernel
theorem dL_law_846 : decode cL_law 846 = .ok (.iload 14, 2) := by decide +kernel
theorem dL_law_848 : decode cL_law 848 = .ok (.ldc 18, 2) := by decide +kernel
theorem dL_law_850 : decode cL_law 850 = .ok (.if_icmp .ne 7, 3) := by decide +kernel
theorem dL_law_853 : decode cL_law 853 = .ok (.iconst 1, 1) := by decide +kernel
theorem dL_law_854 : decode cL_law 854 = .ok (.goto 4, 3) := by decide +kernel
theorem dL_law_857 : decode cL_law 857 = .ok (.iconst 0, 1) := by decide +kernel
theorem dL_law_858 : decode cL_law 858 = .ok (.istore_n 2, 1) := by decide +kernel
theorem dL_law_859 : decode cL_law 859 = .ok (.goto 119, 3) := by decide +kernel
theorem dL_law_862 : decode cL_law 862 = .ok (.aload_n 1, 1) := by decide +kernel
theorem dL_law_863 : decode cL_law 863 = .ok (.iload 7, 2) := by decide +kernel
theorem dL_law_865 : decode cL_law 865 = .ok (.iload 14, 2) := by decide +kernel
theorem dL_law_867 : decode cL_law 867 = .ok (.iconst 0, 1) := by decide +kernel
theorem dL_law_868 : decode cL_law 868 = .ok (.invokevirtual 66, 3) := by decide +kernel
theorem dL_law_871 : decode cL_law 871 = .ok (.ifCond .ne 18, 3) := by decide +kernel
theorem dL_law_874 : decode cL_law 874 = .ok (.aload_n 1, 1) := by decide +kernel
theorem dL_law_875 : decode cL_law 875 = .ok (.iload 14, 2) := by decide +kernel
theorem dL_law_877 : decode cL_law 877 = .ok (.bipush 6, 2) := by decide +kernel
theorem dL_law_879 : decode cL_law 879 = .ok (.invokevirtual 19, 3) := by decide +kernel
theorem dL_law_882 : decode cL_law 882 = .ok (.ifCond .ne 7, 3) := by decide +kernel
theorem dL_law_885 : decode cL_law 885 = .ok (.iconst 1, 1) := by decide +kernel
theorem dL_law_886 : decode cL_law 886 = .ok (.goto 4, 3) := by decide +kernel
theorem dL_law_889 : decode cL_law 889 = .ok (.iconst 0, 1) := by decide +kernel
theorem dL_law_890 : decode cL_law 890 = .ok (.istore 15, 2) := by decide +kernel
theorem dL_law_892 : decode cL_law 892 = .ok (.aload_n 1, 1) := by decide +kernel
theorem dL_law_893 : decode cL_law 893 = .ok (.iload 7, 2) := by decide +kernel
theorem dL_law_895 : decode cL_law 895 = .ok (.iconst 4, 1) := by decide +kernel
theorem dL_law_896 : decode cL_law 896 = .ok (.invokevirtual 8, 3) := by decide +kernel
theorem dL_law_899 : decode cL_law 899 = .ok (.aload_n 1, 1) := by decide +kernel
theorem dL_law_900 : decode cL_law 900 = .ok (.iload 7, 2) := by decide +kernel
theorem dL_law_902 : decode cL_law 902 = .ok (.iload 14, 2) := by decide +kernel
theorem dL_law_904 : decode cL_law 904 = .ok (.iconst 2, 1) := by decide +kernel
theorem dL_law_905 : decode cL_law 905 = .ok (.invokevirtual 66, 3) := by decide +kernel
theorem dL_law_908 : decode cL_law 908 = .ok (.iadd, 1) := by decide +kernel
theorem dL_law_909 : decode cL_law 909 = .ok (.istore 16, 2) := by decide +kernel
theorem dL_law_911 : decode cL_law 911 = .ok (.iload 6, 2) := by decide +kernel
theorem dL_law_913 : decode cL_law 913 = .ok (.iconst 2, 1) := by decide +kernel
theorem dL_law_914 : decode cL_law 914 = .ok (.irem, 1) := by decide +kernel
theorem dL_law_915 : decode cL_law 915 = .ok (.iconst 1, 1) := by decide +kernel
theorem dL_law_916 : decode cL_law 916 = .ok (.if_icmp .eq 8, 3) := by decide +kernel
theorem dL_law_919 : decode cL_law 919 = .ok (.iload 15, 2) := by decide +kernel
theorem dL_law_921 : decode cL_law 921 = .ok (.ifCond .eq 55, 3) := by decide +kernel
theorem dL_law_924 : decode cL_law 924 = .ok (.aload_n 1, 1) := by decide +kernel
theorem dL_law_925 : decode cL_law 925 = .ok (.iload 7, 2) := by decide +kernel
theorem dL_law_927 : decode cL_law 927 = .ok (.iload 14, 2) := by decide +kernel
theorem dL_law_929 : decode cL_law 929 = .ok (.invokevirtual 69, 3) := by decide +kernel
theorem dL_law_932 : decode cL_law 932 = .ok (.iload 15, 2) := by decide +kernel
theorem dL_law_934 : decode cL_law 934 = .ok (.ifCond .eq 8, 3) := by decide +kernel
theorem dL_law_937 : decode cL_law 937 = .ok (.iload 16, 2) := by decide +kernel
theorem dL_law_939 : decode cL_law 939 = .ok (.goto 5, 3) := by decide +kernel
theorem dL_law_942 : decode cL_law 942 = .ok (.ldc 65, 2) := by decide +kernel
theorem dL_law_944 : decode cL_law 944 = .ok (.if_icmp .ne 32, 3) := by decide +kernel
theorem dL_law_947 : decode cL_law 947 = .ok (.aload_n 1, 1) := by decide +kernel
theorem dL_law_948 : decode cL_law 948 = .ok (.iload 7, 2) := by decide +kernel
theorem dL_law_950 : decode cL_law 950 = .ok (.bipush 7, 2) := by decide +kernel
theorem dL_law_952 : decode cL_law 952 = .ok (.invokevirtual 8, 3) := by decide +kernel
theorem dL_law_955 : decode cL_law 955 = .ok (.iload 15, 2) := by decide +kernel
theorem dL_law_957 : decode cL_law 957 = .ok (.ifCond .eq 10, 3) := by decide +kernel
theorem dL_law_960 : decode cL_law 960 = .ok (.iload 9, 2) := by decide +kernel
theorem dL_law_962 : decode cL_law 962 = .ok (.iconst 1, 1) := by decide +kernel
theorem dL_law_963 : decode cL_law 963 = .ok (.iadd, 1) := by decide +kernel
theorem dL_law_964 : decode cL_law 964 = .ok (.goto 5, 3) := by decide +kernel
theorem dL_law_967 : decode cL_law 967 = .ok (.iload 9, 2) := by decide +kernel
theorem dL_law_969 : decode cL_law 969 = .ok (.if_icmp .ne 7, 3) := by decide +kernel
theorem dL_law_972 : decode cL_law 972 = .ok (.iconst 1, 1) := by decide +kernel
theorem dL_law_973 : decode cL_law 973 = .ok (.goto 4, 3) := by decide +kernel
theorem dL_law_976 : decode cL_law 976 = .ok (.iconst 0, 1) := by decide +kernel
theorem dL_law_977 : decode cL_law 977 = .ok (.istore_n 2, 1) := by decide +kernel
theorem dL_law_978 : decode cL_law 978 = .ok (.iload_n 2, 1) := by decide +kernel
theorem dL_law_979 : decode cL_law 979 = .ok (.ifCond .eq 14, 3) := by decide +kernel
theorem dL_law_982 : decode cL_law 982 = .ok (.aload_n 1, 1) := by decide +kernel
theorem dL_law_983 : decode cL_law 983 = .ok (.invokestatic 79, 3) := by decide +kernel
theorem dL_law_986 : decode cL_law 986 = .ok (.ifCond .eq 7, 3) := by decide +kernel
theorem dL_law_989 : decode cL_law 989 = .ok (.iconst 1, 1) := by decide +kernel
theorem dL_law_990 : decode cL_law 990 = .ok (.goto 4, 3) := by decide +kernel
theorem dL_law_993 : decode cL_law 993 = .ok (.iconst 0, 1) := by decide +kernel
theorem dL_law_994 : decode cL_law 994 = .ok (.istore_n 2, 1) := by decide +kernel
theorem dL_law_995 : decode cL_law 995 = .ok (.iinc 5 1, 3) := by decide +kernel
theorem dL_law_998 : decode cL_law 998 = .ok (.goto (-722), 3) := by decide +kernel
theorem dL_law_1001 : decode cL_law 1001 = .ok (.iload_n 2, 1) := by decide +kernel
theorem dL_law_1002 : decode cL_law 1002 = .ok (.ifCond .eq 27, 3) := by decide +kernel
theorem dL_law_1005 : decode cL_law 1005 = .ok (.aload_n 1, 1) := by decide +kernel
theorem dL_law_1006 : decode cL_law 1006 = .ok (.iconst 3, 1) := by decide +kernel
theorem dL_law_1007 : decode cL_law 1007 = .ok (.invokevirtual 30, 3) := by decide +kernel
theorem dL_law_1010 : decode cL_law 1010 = .ok (.ifCond .eq 15, 3) := by decide +kernel
theorem dL_law_1013 : decode cL_law 1013 = .ok (.aload_n 1, 1) := by decide +kernel
theorem dL_law_1014 : decode cL_law 1014 = .ok (.iconst 0, 1) := by decide +kernel
theorem dL_law_1015 : decode cL_law 1015 = .ok (.iconst 1, 1) := by decide +kernel
theorem dL_law_1016 : decode cL_law 1016 = .ok (.iconst 1, 1) := by decide +kernel
theorem dL_law_1017 : decode cL_law 1017 = .ok (.invokevirtual 83, 3) := by decide +kernel
theorem dL_law_1020 : decode cL_law 1020 = .ok (.ldc 65, 2) := by decide +kernel
theorem dL_law_1022 : decode cL_law 1022 = .ok (.if_icmp .ne 7, 3) := by decide +kernel
theorem dL_law_1025 : decode cL_law 1025 = .ok (.iconst 1, 1) := by decide +kernel
theorem dL_law_1026 : decode cL_law 1026 = .ok (.goto 4, 3) := by decide +kernel
theorem dL_law_1029 : decode cL_law 1029 = .ok (.iconst 0, 1) := by decide +kernel
theorem dL_law_1030 : decode cL_law 1030 = .ok (.istore_n 2, 1) := by decide +kernel
theorem dL_law_1031 : decode cL_law 1031 = .ok (.iload_n 2, 1) := by decide +kernel
theorem dL_law_1032 : decode cL_law 1032 = .ok (.ifCond .eq 64, 3) := by decide +kernel
theorem dL_law_1035 : decode cL_law 1035 = .ok (.aload_n 1, 1) := by decide +kernel
theorem dL_law_1036 : decode cL_law 1036 = .ok (.iload_n 3, 1) := by decide +kernel
theorem dL_law_1037 : decode cL_law 1037 = .ok (.iconst 0, 1) := by decide +kernel
theorem dL_law_1038 : decode cL_law 1038 = .ok (.invokevirtual 69, 3) := by decide +kernel
theorem dL_law_1041 : decode cL_law 1041 = .ok (.ldc 43, 2) := by decide +kernel
theorem dL_law_1043 : decode cL_law 1043 = .ok (.if_icmp .ne 53, 3) := by decide +kernel
theorem dL_law_1046 : decode cL_law 1046 = .ok (.aload_n 1, 1) := by decide +kernel
theorem dL_law_1047 : decode cL_law 1047 = .ok (.iconst 0, 1) := by decide +kernel
theorem dL_law_1048 : decode cL_law 1048 = .ok (.iload 4, 2) := by decide +kernel
theorem dL_law_1050 : decode cL_law 1050 = .ok (.invokevirtual 69, 3) := by decide +kernel
theorem dL_law_1053 : decode cL_law 1053 = .ok (.ldc 43, 2) := by decide +kernel
theorem dL_law_1055 : decode cL_law 1055 = .ok (.if_icmp .ne 41, 3) := by decide +kernel
theorem dL_law_1058 : decode cL_law 1058 = .ok (.aload_n 1, 1) := by decide +kernel
theorem dL_law_1059 : decode cL_law 1059 = .ok (.iconst 0, 1) := by decide +kernel
theorem dL_law_1060 : decode cL_law 1060 = .ok (.iconst (-1), 1) := by decide +kernel
theorem dL_law_1061 : decode cL_law 1061 = .ok (.iconst 0, 1) := by decide +kernel
theorem dL_law_1062 : decode cL_law 1062 = .ok (.invokevirtual 14, 3) := by decide +kernel
theorem dL_law_1065 : decode cL_law 1065 = .ok (.ldc 43, 2) := by decide +kernel
theorem dL_law_1067 : decode cL_law 1067 = .ok (.if_icmp .ne 29, 3) := by decide +kernel
theorem dL_law_1070 : decode cL_law 1070 = .ok (.aload_n 1, 1) := by decide +kernel
theorem dL_law_1071 : decode cL_law 1071 = .ok (.iconst 0, 1) := by decide +kernel
theorem dL_law_1072 : decode cL_law 1072 = .ok (.bipush 100, 2) := by decide +kernel
theorem dL_law_1074 : decode cL_law 1074 = .ok (.invokevirtual 58, 3) := by decide +kernel
theorem dL_law_1077 : decode cL_law 1077 = .ok (.ldc 43, 2) := by decide +kernel
theorem dL_law_1079 : decode cL_law 1079 = .ok (.if_icmp .ne 17, 3) := by decide +kernel
theorem dL_law_1082 : decode cL_law 1082 = .ok (.aload_n 1, 1) := by decide +kernel
theorem dL_law_1083 : decode cL_law 1083 = .ok (.iconst 4, 1) := by decide +kernel
theorem dL_law_1084 : decode cL_law 1084 = .ok (.invokevirtual 86, 3) := by decide +kernel
theorem dL_law_1087 : decode cL_law 1087 = .ok (.ldc 43, 2) := by decide +kernel
theorem dL_law_1089 : decode cL_law 1089 = .ok (.if_icmp .ne 7, 3) := by decide +kernel
theorem dL_law_1092 : decode cL_law 1092 = .ok (.iconst 1, 1) := by decide +kernel
theorem dL_law_1093 : decode cL_law 1093 = .ok (.goto 4, 3) := by decide +kernel
theorem dL_law_1096 : decode cL_law 1096 = .ok (.iconst 0, 1) := by decide +kernel
theorem dL_law_1097 : decode cL_law 1097 = .ok (.ireturn, 1) := by decide +kernel
end
section
/-! THE JUDGEMENT: a fixed number of cells at addresses ad c (c an Int), what is in cell c is a function cd c of its row of ints; no cell comes or goes. -/
abbrev zM : Type := Int → Int → Int
def zup (μ : zM) (c i z : Int) : zM := fun c' i' => if c' = c ∧ i' = i then z else μ c' i'
def iZ (z : Int) : Int32 := Int32.ofInt z
abbrev zV : Type := Heap → List Loc → Nat → Array Slot → List Value → Prop
/-- the walk's judgement, the heap at its beginning, the cells that may be written, how many locals -/
abbrev zG : Type := zV × Heap × (Nat → Prop) × Nat
/-- the classes' numbers, the array classes, how many cells, their addresses, what they hold -/
abbrev zO : Type := va_G × (Nat → ClassId) × Nat × (Int → Nat) × (Int → (Int → Int) → va_E)
abbrev zcl : List vw_C := [(RX0, TX0, 8), (RX1, TX1, 8), (RX2, TX2, 12), (RX3, TX3, 4), (RX4, TX4, 2), (RX5, TX5, 5), (RX6, TX6, 8), (RX7, TX7, 5)]
abbrev zty (ca : Nat → ClassId) : List (ClassId × FieldType) := [(ca 0, .int), (ca 1, .char), (ca 2, .object RX6), (ca 3, .object RX0), (ca 4, .object RX2)]
def zws (ω : zO) (μ : zM) : va_W := (List.range ω.2.2.1).map (fun k : Nat => (ω.2.2.2.1 (k : Int), ω.2.2.2.2 (k : Int) (μ (k : Int))))
def zH (ω : zO) (A : Nat → Prop) (μ : zM) (H : Heap) : Prop := va_P ω.1 zcl (zws ω μ) H ∧ va_D A (zws ω μ)
def zNst : List Cond := [.methodLinkNest RX2 32 yX1_init RX7, .methodLinkNest RX2 37 yX6_init RX7, .methodLinkNest RX2 38 yX0_init RX7, .methodLinkNest RX7 28 yX5_init RX7, .methodLinkNest RX7 35 yX3_init RX7, .methodLinkNest RX2 65 yX7_isPort RX7, .methodLinkNest RX2 69 yX7_isIn RX7, .methodLinkNest RX2 149 yX7_divideUp RX7]
def zN (U : State) : Prop := ∀ w ∈ zNst, va_Nw w U
def zK (ω : zO) (U : State) : Prop := va_K ω.1 zcl (zty ω.2.1) U ∧ zN U
theorem zNst_tab : ∀ w ∈ zNst, w.onTables = true := by
  intro w hw
  simp only [zNst, List.mem_cons, List.not_mem_nil, or_false] at hw
  rcases hw with h | h | h | h | h | h | h | h <;> subst h <;> rfl
theorem zN.warm {s U : State} (hW : s.WarmedH U.vm) (h : zN s) : zN U := by
  intro w hw
  have h1 := h w hw
  simp only [zNst, List.mem_cons, List.not_mem_nil, or_false] at hw
  rcases hw with q | q | q | q | q | q | q | q <;> subst q <;> exact va_Nw.warmM hW h1
theorem zN.same {u U : State} (hvm : u.vm = U.vm) (h : zN u) : zN U := fun w hw => va_Nw.same (zNst_tab w hw) hvm (h w hw)
theorem zK.warm {ω : zO} {s U : State} (hW : s.WarmedH U.vm) (h : zK ω s) : zK ω U := ⟨va_K.moved hW.alike h.1, h.2.warm hW⟩
theorem zK.same {ω : zO} {u U : State} (hvm : u.vm = U.vm) (h : zK ω u) : zK ω U := ⟨va_K.moved (by rw [hvm]; exact Vm.Alike.refl _) h.1, h.2.same hvm⟩
/-! locals: the first pair of a slot counts -/
def zlk : List (Nat × Value) → Nat → Option Value
  | [], _ => none
  | q :: l, k => if q.1 = k then some q.2 else zlk l k
def zL (ls : Array Slot) (nL : Nat) (L : List (Nat × Value)) : Prop := ls.size = nL ∧ lv_wf ls ∧ ∀ (k : Nat) (v : Value), zlk L k = some v → ls[k]? = some (.val v)
def zcat (L : List (Nat × Value)) : Nat → Bool
  | 0 => true
  | i + 1 => match zlk L i with
    | some v => v.category == 1
    | none => true
def zdd (L : List (Nat × Value)) : List (Nat × Value) := L.filterMap (fun q => (zlk L q.1).map (fun v => (q.1, v)))
theorem zlk_mem {L : List (Nat × Value)} {k : Nat} {v : Value} (h : zlk L k = some v) : (k, v) ∈ L := by
  induction L with
  | nil => simp [zlk] at h
  | cons q l ih =>
    unfold zlk at h
    by_cases hq : q.1 = k
    · rw [if_pos hq] at h
      cases h
      subst hq
      exact List.mem_cons_self
    · rw [if_neg hq] at h
      exact List.mem_cons_of_mem _ (ih h)
theorem zdd_mem {L : List (Nat × Value)} {q : Nat × Value} : q ∈ zdd L ↔ zlk L q.1 = some q.2 := by
  constructor
  · intro h
    obtain ⟨a, ha, hb⟩ := List.mem_filterMap.mp h
    cases hz : zlk L a.1 with
    | none => rw [hz] at hb; cases hb
    | some v => rw [hz] at hb; cases hb; exact hz
  · intro h
    refine List.mem_filterMap.mpr ⟨q, zlk_mem h, ?_⟩
    rw [h]
    rfl
theorem zL.has {ls : Array Slot} {nL : Nat} {L : List (Nat × Value)} (h : zL ls nL L) : lv_has ls nL (zdd L) := ⟨h.1, h.2.1, fun q hq => h.2.2 q.1 q.2 (zdd_mem.mp hq)⟩
theorem zL.of {ls : Array Slot} {nL : Nat} {L : List (Nat × Value)} (h : lv_has ls nL L) : zL ls nL L := ⟨h.1, h.2.1, fun k v hk => h.2.2 (k, v) (zlk_mem hk)⟩
theorem zL.st {ls : Array Slot} {nL i : Nat} {v : Value} {L : List (Nat × Value)} (hc : zcat L i = true) (h : lv_has ls nL ((i, v) :: (zdd L).filter (fun q => !(q.1 == i) && !(q.1 + 1 == i && q.2.category == 2)))) : zL ls nL ((i, v) :: L) := by
  refine ⟨h.1, h.2.1, fun k v' hk => ?_⟩
  unfold zlk at hk
  by_cases hq : i = k
  · rw [if_pos hq] at hk
    cases hk
    subst hq
    exact h.2.2 _ List.mem_cons_self
  · rw [if_neg hq] at hk
    refine h.2.2 (k, v') (List.mem_cons_of_mem _ (List.mem_filter.mpr ⟨zdd_mem.mpr hk, ?_⟩))
    have h1 : (k == i) = false := by simpa using fun e => hq e.symm
    simp only [h1, Bool.not_false, Bool.true_and, Bool.not_eq_true']
    by_cases h2 : k + 1 = i
    · subst h2
      simp only [zcat, hk, beq_iff_eq] at hc
      simp [hc]
    · have : (k + 1 == i) = false := by simpa using h2
      simp [this]
theorem zL.st2 {ls : Array Slot} {nL i : Nat} {v : Value} {L : List (Nat × Value)} (hc : zcat L i = true) (hn : zlk L (i + 1) = none) (h : lv_has ls nL ((i, v) :: (zdd L).filter (fun q => !(q.1 == i) && (!(q.1 == i + 1) && !(q.1 + 1 == i && q.2.category == 2))))) : zL ls nL ((i, v) :: L) := by
  refine ⟨h.1, h.2.1, fun k v' hk => ?_⟩
  unfold zlk at hk
  by_cases hq : i = k
  · rw [if_pos hq] at hk
    cases hk
    subst hq
    exact h.2.2 _ List.mem_cons_self
  · rw [if_neg hq] at hk
    refine h.2.2 (k, v') (List.mem_cons_of_mem _ (List.mem_filter.mpr ⟨zdd_mem.mpr hk, ?_⟩))
    have h1 : (k == i) = false := by simpa using fun e => hq e.symm
    have h3 : (k == i + 1) = false := by
      have : ¬ k = i + 1 := fun e => by rw [e, hn] at hk; cases hk
      simpa using this
    simp only [h1, h3, Bool.not_false, Bool.true_and, Bool.not_eq_true']
    by_cases h2 : k + 1 = i
    · subst h2
      simp only [zcat, hk, beq_iff_eq] at hc
      simp [hc]
    · have : (k + 1 == i) = false := by simpa using h2
      simp [this]
/-- of two lists of locals the first says no more -/
def zsub : List (Nat × Value) → List (Nat × Value) → Prop
  | [], _ => True
  | q :: l, L => zlk L q.1 = some q.2 ∧ zsub l L
theorem zsub_lk {l L : List (Nat × Value)} (h : zsub l L) {k : Nat} {v : Value} (hk : zlk l k = some v) : zlk L k = some v := by
  induction l with
  | nil => simp [zlk] at hk
  | cons q l ih =>
    unfold zlk at hk
    by_cases hq : q.1 = k
    · rw [if_pos hq] at hk
      cases hk
      rw [← hq]
      exact h.1
    · rw [if_neg hq] at hk
      exact ih h.2 hk
def Z (Γ : zG) (ω : zO) (μ : zM) (pc : Nat) (L : List (Nat × Value)) (st : List Value) : Prop :=
  ∀ (H : Heap) (locs : List Loc) (ls : Array Slot), zH ω Γ.2.2.1 μ H → va_S Γ.2.2.1 Γ.2.1 H locs → zL ls Γ.2.2.2 L → Γ.1 H locs pc ls st
/-- a method's end: what it answers, and the memory behind it -/
def zQ (ω : zO) (A : Nat → Prop) (post : Option Value → zM → Prop) : Array Value → State → Outcome → State → Prop := fun _ st oc t => (∃ (v : Option Value) (μ' : zM), oc = .returned v ∧ post v μ' ∧ zH ω A μ' t.heap) ∧ va_F A st t
def zP (ω : zO) (A : Nat → Prop) (μ : zM) : State → Prop := fun U => zK ω U ∧ zH ω A μ U.heap
/-- what a walk knows of its machine -/
def zC (Γ : zG) (ω : zO) (own : String) (cc : ByteArray) (nL fr lo : Nat) (rt : Option FieldType) (post : Option Value → zM → Prop) : Prop :=
  ∃ (p : Program) (l : Launch) (e : Env) (R : Room) (s : State) (m : MethodId) (args : Array Value) (below : List Frame) (meth : Method) (c : Code),
    (Γ.1 = fun H locs pc ls st => W p l e R s m args below meth c H locs 0 0 (MQ below (zQ ω Γ.2.2.1 post) args s 0 0 Γ.2.2.1) (F0 m pc ls st)) ∧ Γ.2.1 = s.heap ∧ Γ.2.2.2 = nL ∧ p.tables.exec = Jvm.exec ∧ c.code = cc ∧ c.maxLocals = nL ∧ s.vm.findClass own = some m.cls ∧ (∀ w ∈ AL, w.before args s = true) ∧ zK ω s ∧ meth.sig.returnType = rt ∧ meth.locks = false ∧ fr ≤ R.frames ∧ lo ≤ R.locals
/-- a contract -/
abbrev zMet (l : Launch) (ω : zO) (A : Nat → Prop) (y : MethodName) (cc : ByteArray) (nL : Nat) (rt : Option FieldType) (fr lo : Nat) (vs : List Value) (μ : zM) (post : Option Value → zM → Prop) : Prop :=
  Met l y (.code y cc nL rt :: AL) { frames := fr, cells := 0, slots := 0, locals := lo } (va_Pc vs (zP ω A μ)) (zQ ω A post) 0 0 A
theorem zMet_of {l : Launch} {ω : zO} {A : Nat → Prop} {y : MethodName} {cc : ByteArray} {nL : Nat} {rt : Option FieldType} {fr lo : Nat} {vs : List Value} {μ : zM} {post : Option Value → zM → Prop} (hy : plainName y.cls = true) (hn : (lg_sl vs).length ≤ nL)
    (body : ∀ Γ : zG, zC Γ ω y.cls cc nL fr lo rt post → Z Γ ω μ 0 (lv_args 0 vs) []) : zMet l ω A y cc nL rt fr lo vs μ post := by
  refine Met.ofW (cc := cc) (maxL := nL) (ret := rt) hy rfl ?_
  intro p e s m args below meth c s₁ B hml hv
  obtain ⟨rfl, hK, hH⟩ := hv
  have hts := atoms_spec (ws := .code y cc nL rt :: AL) B.pre
  have hl := lv_entry vs hn
  rw [lg_entry_eq]
  exact body (fun H locs pc ls st => W p l e _ s m vs.toArray below meth c H locs 0 0 (MQ below (zQ ω A post) vs.toArray s 0 0 A) (F0 m pc ls st), s.heap, A, nL)
    ⟨p, l, e, _, s, m, vs.toArray, below, meth, c, rfl, rfl, rfl, B.exec, B.bytes, hml, findClass_of_methodNamed B.named, fun w h => hts w (List.mem_cons_of_mem _ h), hK, B.returns, B.notSynchronized, Nat.le_refl _, Nat.le_refl _⟩
    s.heap [] _ hH va_S.rf (zL.of hl)
/-! the world's list -/
theorem zws_at {ω : zO} {μ : zM} {c : Int} (h0 : 0 ≤ c) (hn : c < (ω.2.2.1 : Int)) : (zws ω μ)[c.toNat]? = some (ω.2.2.2.1 c, ω.2.2.2.2 c (μ c)) := by
  have h1 : c.toNat < ω.2.2.1 := by omega
  have h2 : ((c.toNat : Nat) : Int) = c := Int.toNat_of_nonneg h0
  simp only [zws, List.getElem?_map, List.getElem?_range h1, Option.map_some, h2]
theorem zws_set {ω : zO} {μ μ' : zM} {c : Int} {e : va_E} (h0 : 0 ≤ c) (hn : c < (ω.2.2.1 : Int)) (he : ω.2.2.2.2 c (μ' c) = e) (ho : ∀ c', c' ≠ c → μ' c' = μ c') : (zws ω μ).set c.toNat (ω.2.2.2.1 c, e) = zws ω μ' := by
  have h1 : c.toNat < ω.2.2.1 := by omega
  have h2 : ((c.toNat : Nat) : Int) = c := Int.toNat_of_nonneg h0
  apply List.ext_getElem?
  intro k
  rw [List.getElem?_set]
  by_cases hk : c.toNat = k
  · subst hk
    rw [if_pos rfl, if_pos (by simpa [zws] using h1), zws_at h0 hn, he]
  · rw [if_neg hk]
    by_cases hk2 : k < ω.2.2.1
    · have h3 : ((k : Nat) : Int) ≠ c := fun h => hk (by omega)
      simp only [zws, List.getElem?_map, List.getElem?_range hk2, Option.map_some, ho _ h3]
    · simp only [zws, List.getElem?_map, List.getElem?_eq_none (l := List.range ω.2.2.1) (by simpa using hk2), Option.map_none]
theorem zup_o {μ : zM} {c i z c' : Int} (h : c' ≠ c) : zup μ c i z c' = μ c' := by
  funext i'
  simp only [zup, h, false_and, if_false]
theorem zup_c {μ : zM} {c i z : Int} : zup μ c i z c = fun i' => if i' = i then z else μ c i' := by
  funext i'
  simp only [zup, true_and]
theorem zup_s {μ : zM} {c i z : Int} : zup μ c i z c i = z := by simp [zup]
theorem zup_n {μ : zM} {c i z c' i' : Int} (h : c' ≠ c ∨ i' ≠ i) : zup μ c i z c' i' = μ c' i' := by
  unfold zup
  rw [if_neg]
  omega
theorem zws_ad {ω : zO} {μ μ' : zM} (k : Nat) (q : Nat × va_E) (h : (zws ω μ')[k]? = some q) : ∃ q0, (zws ω μ)[k]? = some q0 ∧ q0.1 = q.1 := by
  by_cases hk : k < ω.2.2.1
  · simp only [zws, List.getElem?_map, List.getElem?_range hk, Option.map_some, Option.some.injEq] at h ⊢
    exact ⟨_, rfl, by rw [← h]⟩
  · simp [zws, List.getElem?_eq_none (l := List.range ω.2.2.1) (by simpa using hk)] at h
/-! ints -/
theorem iZ_add (a b : Int) : iZ a + iZ b = iZ (a + b) := (Int32.ofInt_add a b).symm
theorem iZ_sub (a b : Int) : iZ a - iZ b = iZ (a - b) := (Int32.ofInt_sub a b).symm
theorem iZ_mul (a b : Int) : iZ a * iZ b = iZ (a * b) := (Int32.ofInt_mul a b).symm
theorem iZ_neg (a : Int) : -iZ a = iZ (-a) := (Int32.ofInt_neg a).symm
theorem iZ_toInt {a : Int} (h : -2147483648 ≤ a ∧ a ≤ 2147483647) : (iZ a).toInt = a := Int32.toInt_ofInt_of_le (by simpa using h.1) (by have := h.2; show a < _; simp; omega)
theorem iZ_of (x : Int32) : ∃ z : Int, (-2147483648 ≤ z ∧ z ≤ 2147483647) ∧ x = iZ z := by
  refine ⟨x.toInt, ⟨by have := x.le_toInt; simpa using this, by have := x.toInt_lt; simp at this; omega⟩, (Int32.ofInt_toInt x).symm⟩
theorem iZ_lt {a b : Int} (ha : -2147483648 ≤ a ∧ a ≤ 2147483647) (hb : -2147483648 ≤ b ∧ b ≤ 2147483647) : iZ a < iZ b ↔ a < b := by rw [Int32.lt_iff_toInt_lt, iZ_toInt ha, iZ_toInt hb]
theorem iZ_le {a b : Int} (ha : -2147483648 ≤ a ∧ a ≤ 2147483647) (hb : -2147483648 ≤ b ∧ b ≤ 2147483647) : iZ a ≤ iZ b ↔ a ≤ b := by rw [Int32.le_iff_toInt_le, iZ_toInt ha, iZ_toInt hb]
theorem iZ_eq {a b : Int} (ha : -2147483648 ≤ a ∧ a ≤ 2147483647) (hb : -2147483648 ≤ b ∧ b ≤ 2147483647) : iZ a = iZ b ↔ a = b := by
  constructor
  · intro h
    have := congrArg Int32.toInt h
    rwa [iZ_toInt ha, iZ_toInt hb] at this
  · intro h; rw [h]
theorem iZ_0 : iZ 0 = 0 := rfl
theorem iZ_clamp {a : Int} (h0 : 0 ≤ a) (h : a ≤ 2147483647) : (iZ a).toNatClampNeg = a.toNat := by
  show (iZ a).toInt.toNat = _
  rw [iZ_toInt ⟨by omega, h⟩]
theorem iZ_in {a : Int} {n : Nat} (h0 : 0 ≤ a) (hn : a < (n : Int)) (hb : a ≤ 2147483647) : vp_in (iZ a) n := by
  refine vp_in_iff.mpr ?_
  rw [iZ_toInt ⟨by omega, hb⟩]
  exact ⟨h0, hn⟩
theorem iZ_div {a b : Int} (ha : 0 ≤ a ∧ a ≤ 2147483647) (hb : 0 < b ∧ b ≤ 2147483647) : iZ a / iZ b = iZ (a / b) := by
  have h1 : ((iZ a / iZ b).toInt) = (iZ a).toInt.tdiv (iZ b).toInt := by
    rw [Int32.toInt_div, iZ_toInt ⟨by omega, ha.2⟩, iZ_toInt ⟨by omega, hb.2⟩]
    rw [Int.tdiv_eq_ediv_of_nonneg ha.1]
    have h2 : a / b ≤ a := Int.ediv_le_self b ha.1
    have h3 : 0 ≤ a / b := Int.ediv_nonneg ha.1 (by omega)
    rw [Int.bmod_eq_of_le (by omega) (by omega)]
  rw [iZ_toInt ⟨by omega, ha.2⟩, iZ_toInt ⟨by omega, hb.2⟩, Int.tdiv_eq_ediv_of_nonneg ha.1] at h1
  apply Int32.toInt.inj
  have h2 : a / b ≤ a := Int.ediv_le_self b ha.1
  have h3 : 0 ≤ a / b := Int.ediv_nonneg ha.1 (by omega)
  rw [h1, iZ_toInt ⟨by omega, by omega⟩]

section ZR
variable {Γ : zG} {ω : zO} {own : String} {cc : ByteArray} {nL fr lo : Nat} {rt : Option FieldType} {post : Option Value → zM → Prop} {μ : zM} {pc : Nat} {L : List (Nat × Value)} {st : List Value}
theorem z_iload_n (h : zC Γ ω own cc nL fr lo rt post) {k : Fin 4} {x : Int32} (hdg : decode cc pc = .ok (.iload_n k, 1)) (hl0 : zlk L k = some (.int x)) (kk : Z Γ ω μ (pc + 1) L (.int x :: st)) : Z Γ ω μ pc L st := by
  obtain ⟨p, l, e, R, s, m, args, below, meth, c, hV, hH0, hnl, hx, hb, hml, hown, hts, hK, hr, hlk, hfr, hlo⟩ := h
  intro H locs ls hH hS hl
  rw [hV]
  have K := kk H locs ls hH hS hl
  rw [hV] at K
  refine lv_iload_n hx hb hdg rfl (hl.2.2 _ _ hl0) ?_
  exact K
theorem z_iload (h : zC Γ ω own cc nL fr lo rt post) {k : Nat} {x : Int32} (hdg : decode cc pc = .ok (.iload k, 2)) (hl0 : zlk L k = some (.int x)) (kk : Z Γ ω μ (pc + 2) L (.int x :: st)) : Z Γ ω μ pc L st := by
  obtain ⟨p, l, e, R, s, m, args, below, meth, c, hV, hH0, hnl, hx, hb, hml, hown, hts, hK, hr, hlk, hfr, hlo⟩ := h
  intro H locs ls hH hS hl
  rw [hV]
  have K := kk H locs ls hH hS hl
  rw [hV] at K
  refine lv_iload hx hb hdg (hl.2.2 _ _ hl0) ?_
  exact K
theorem z_istore_n (h : zC Γ ω own cc nL fr lo rt post) {k : Fin 4} {x : Int32} (hdg : decode cc pc = .ok (.istore_n k, 1)) (hn : (k : Nat) < nL) (hc : zcat L (k : Nat) = true) (kk : Z Γ ω μ (pc + 1) (((k : Nat), .int x) :: L) st) : Z Γ ω μ pc L (.int x :: st) := by
  obtain ⟨p, l, e, R, s, m, args, below, meth, c, hV, hH0, hnl, hx, hb, hml, hown, hts, hK, hr, hlk, hfr, hlo⟩ := h
  intro H locs ls hH hS hl
  rw [hV]
  refine lv_istore_n hx hb hdg rfl hl.has (by omega) rfl (fun ls9 h9 => ?_)
  have K := kk H locs ls9 hH hS (zL.st hc h9)
  rw [hV] at K
  exact K
theorem z_istore (h : zC Γ ω own cc nL fr lo rt post) {k : Nat} {x : Int32} (hdg : decode cc pc = .ok (.istore k, 2)) (hn : k < nL) (hc : zcat L k = true) (kk : Z Γ ω μ (pc + 2) ((k, .int x) :: L) st) : Z Γ ω μ pc L (.int x :: st) := by
  obtain ⟨p, l, e, R, s, m, args, below, meth, c, hV, hH0, hnl, hx, hb, hml, hown, hts, hK, hr, hlk, hfr, hlo⟩ := h
  intro H locs ls hH hS hl
  rw [hV]
  refine lv_istore hx hb hdg hl.has (by omega) rfl (fun ls9 h9 => ?_)
  have K := kk H locs ls9 hH hS (zL.st hc h9)
  rw [hV] at K
  exact K
theorem z_aload_n (h : zC Γ ω own cc nL fr lo rt post) {k : Fin 4} {x : Nat} (hdg : decode cc pc = .ok (.aload_n k, 1)) (hl0 : zlk L k = some (.ref x)) (kk : Z Γ ω μ (pc + 1) L (.ref x :: st)) : Z Γ ω μ pc L st := by
  obtain ⟨p, l, e, R, s, m, args, below, meth, c, hV, hH0, hnl, hx, hb, hml, hown, hts, hK, hr, hlk, hfr, hlo⟩ := h
  intro H locs ls hH hS hl
  rw [hV]
  have K := kk H locs ls hH hS hl
  rw [hV] at K
  refine lv_aload_n hx hb hdg rfl (hl.2.2 _ _ hl0) ?_
  exact K
theorem z_aload (h : zC Γ ω own cc nL fr lo rt post) {k : Nat} {x : Nat} (hdg : decode cc pc = .ok (.aload k, 2)) (hl0 : zlk L k = some (.ref x)) (kk : Z Γ ω μ (pc + 2) L (.ref x :: st)) : Z Γ ω μ pc L st := by
  obtain ⟨p, l, e, R, s, m, args, below, meth, c, hV, hH0, hnl, hx, hb, hml, hown, hts, hK, hr, hlk, hfr, hlo⟩ := h
  intro H locs ls hH hS hl
  rw [hV]
  have K := kk H locs ls hH hS hl
  rw [hV] at K
  refine lv_aload hx hb hdg (hl.2.2 _ _ hl0) ?_
  exact K
theorem z_astore_n (h : zC Γ ω own cc nL fr lo rt post) {k : Fin 4} {x : Nat} (hdg : decode cc pc = .ok (.astore_n k, 1)) (hn : (k : Nat) < nL) (hc : zcat L (k : Nat) = true) (kk : Z Γ ω μ (pc + 1) (((k : Nat), .ref x) :: L) st) : Z Γ ω μ pc L (.ref x :: st) := by
  obtain ⟨p, l, e, R, s, m, args, below, meth, c, hV, hH0, hnl, hx, hb, hml, hown, hts, hK, hr, hlk, hfr, hlo⟩ := h
  intro H locs ls hH hS hl
  rw [hV]
  refine lv_astore_n hx hb hdg rfl hl.has (by omega) rfl (fun ls9 h9 => ?_)
  have K := kk H locs ls9 hH hS (zL.st hc h9)
  rw [hV] at K
  exact K
theorem z_astore (h : zC Γ ω own cc nL fr lo rt post) {k : Nat} {x : Nat} (hdg : decode cc pc = .ok (.astore k, 2)) (hn : k < nL) (hc : zcat L k = true) (kk : Z Γ ω μ (pc + 2) ((k, .ref x) :: L) st) : Z Γ ω μ pc L (.ref x :: st) := by
  obtain ⟨p, l, e, R, s, m, args, below, meth, c, hV, hH0, hnl, hx, hb, hml, hown, hts, hK, hr, hlk, hfr, hlo⟩ := h
  intro H locs ls hH hS hl
  rw [hV]
  refine lv_astore hx hb hdg hl.has (by omega) rfl (fun ls9 h9 => ?_)
  have K := kk H locs ls9 hH hS (zL.st hc h9)
  rw [hV] at K
  exact K
theorem z_fload_n (h : zC Γ ω own cc nL fr lo rt post) {k : Fin 4} {x : UInt32} (hdg : decode cc pc = .ok (.fload_n k, 1)) (hl0 : zlk L k = some (.float x)) (kk : Z Γ ω μ (pc + 1) L (.float x :: st)) : Z Γ ω μ pc L st := by
  obtain ⟨p, l, e, R, s, m, args, below, meth, c, hV, hH0, hnl, hx, hb, hml, hown, hts, hK, hr, hlk, hfr, hlo⟩ := h
  intro H locs ls hH hS hl
  rw [hV]
  have K := kk H locs ls hH hS hl
  rw [hV] at K
  refine lv_fload_n hx hb hdg rfl (hl.2.2 _ _ hl0) ?_
  exact K
theorem z_fstore_n (h : zC Γ ω own cc nL fr lo rt post) {k : Fin 4} {x : UInt32} (hdg : decode cc pc = .ok (.fstore_n k, 1)) (hn : (k : Nat) < nL) (hc : zcat L (k : Nat) = true) (kk : Z Γ ω μ (pc + 1) (((k : Nat), .float x) :: L) st) : Z Γ ω μ pc L (.float x :: st) := by
  obtain ⟨p, l, e, R, s, m, args, below, meth, c, hV, hH0, hnl, hx, hb, hml, hown, hts, hK, hr, hlk, hfr, hlo⟩ := h
  intro H locs ls hH hS hl
  rw [hV]
  refine lv_fstore_n hx hb hdg rfl hl.has (by omega) rfl (fun ls9 h9 => ?_)
  have K := kk H locs ls9 hH hS (zL.st hc h9)
  rw [hV] at K
  exact K
theorem z_fstore (h : zC Γ ω own cc nL fr lo rt post) {k : Nat} {x : UInt32} (hdg : decode cc pc = .ok (.fstore k, 2)) (hn : k < nL) (hc : zcat L k = true) (kk : Z Γ ω μ (pc + 2) ((k, .float x) :: L) st) : Z Γ ω μ pc L (.float x :: st) := by
  obtain ⟨p, l, e, R, s, m, args, below, meth, c, hV, hH0, hnl, hx, hb, hml, hown, hts, hK, hr, hlk, hfr, hlo⟩ := h
  intro H locs ls hH hS hl
  rw [hV]
  refine lv_fstore hx hb hdg hl.has (by omega) rfl (fun ls9 h9 => ?_)
  have K := kk H locs ls9 hH hS (zL.st hc h9)
  rw [hV] at K
  exact K
theorem z_lload_n (h : zC Γ ω own cc nL fr lo rt post) {k : Fin 4} {x : Int64} (hdg : decode cc pc = .ok (.lload_n k, 1)) (hl0 : zlk L k = some (.long x)) (kk : Z Γ ω μ (pc + 1) L (.long x :: st)) : Z Γ ω μ pc L st := by
  obtain ⟨p, l, e, R, s, m, args, below, meth, c, hV, hH0, hnl, hx, hb, hml, hown, hts, hK, hr, hlk, hfr, hlo⟩ := h
  intro H locs ls hH hS hl
  rw [hV]
  have K := kk H locs ls hH hS hl
  rw [hV] at K
  refine lv_lload_n hx hb hdg rfl (hl.2.2 _ _ hl0) ?_
  exact K
theorem z_lload (h : zC Γ ω own cc nL fr lo rt post) {k : Nat} {x : Int64} (hdg : decode cc pc = .ok (.lload k, 2)) (hl0 : zlk L k = some (.long x)) (kk : Z Γ ω μ (pc + 2) L (.long x :: st)) : Z Γ ω μ pc L st := by
  obtain ⟨p, l, e, R, s, m, args, below, meth, c, hV, hH0, hnl, hx, hb, hml, hown, hts, hK, hr, hlk, hfr, hlo⟩ := h
  intro H locs ls hH hS hl
  rw [hV]
  have K := kk H locs ls hH hS hl
  rw [hV] at K
  refine lv_lload hx hb hdg (hl.2.2 _ _ hl0) ?_
  exact K
theorem z_lstore_n (h : zC Γ ω own cc nL fr lo rt post) {k : Fin 4} {x : Int64} (hdg : decode cc pc = .ok (.lstore_n k, 1)) (hn : (k : Nat) + 1 < nL) (hc : zcat L (k : Nat) = true) (hn2 : zlk L ((k : Nat) + 1) = none) (kk : Z Γ ω μ (pc + 1) (((k : Nat), .long x) :: L) st) : Z Γ ω μ pc L (.long x :: st) := by
  obtain ⟨p, l, e, R, s, m, args, below, meth, c, hV, hH0, hnl, hx, hb, hml, hown, hts, hK, hr, hlk, hfr, hlo⟩ := h
  intro H locs ls hH hS hl
  rw [hV]
  refine lv_lstore_n hx hb hdg rfl hl.has (by omega) rfl (fun ls9 h9 => ?_)
  have K := kk H locs ls9 hH hS (zL.st2 hc hn2 h9)
  rw [hV] at K
  exact K
theorem z_lstore (h : zC Γ ω own cc nL fr lo rt post) {k : Nat} {x : Int64} (hdg : decode cc pc = .ok (.lstore k, 2)) (hn : k + 1 < nL) (hc : zcat L k = true) (hn2 : zlk L (k + 1) = none) (kk : Z Γ ω μ (pc + 2) ((k, .long x) :: L) st) : Z Γ ω μ pc L (.long x :: st) := by
  obtain ⟨p, l, e, R, s, m, args, below, meth, c, hV, hH0, hnl, hx, hb, hml, hown, hts, hK, hr, hlk, hfr, hlo⟩ := h
  intro H locs ls hH hS hl
  rw [hV]
  refine lv_lstore hx hb hdg hl.has (by omega) rfl (fun ls9 h9 => ?_)
  have K := kk H locs ls9 hH hS (zL.st2 hc hn2 h9)
  rw [hV] at K
  exact K
theorem z_iinc (h : zC Γ ω own cc nL fr lo rt post) {k : Nat} {n x : Int} (hdg : decode cc pc = .ok (.iinc k n, 3)) (hl0 : zlk L k = some (.int (iZ x))) (hn : k < nL) (hc : zcat L k = true) (kk : Z Γ ω μ (pc + 3) ((k, .int (iZ (x + n))) :: L) st) : Z Γ ω μ pc L st := by
  obtain ⟨p, l, e, R, s, m, args, below, meth, c, hV, hH0, hnl, hx, hb, hml, hown, hts, hK, hr, hlk, hfr, hlo⟩ := h
  intro H locs ls hH hS hl
  rw [hV]
  obtain ⟨j, hj⟩ := List.getElem?_of_mem (zdd_mem (q := (k, .int (iZ x))) |>.mpr hl0)
  refine lv_iinc hx hb hdg hl.has hj (iZ_add x n) (by omega) rfl (fun ls9 h9 => ?_)
  have K := kk H locs ls9 hH hS (zL.st hc h9)
  rw [hV] at K
  exact K
theorem z_iconst (h : zC Γ ω own cc nL fr lo rt post) {n : Int} (hdg : decode cc pc = .ok (.iconst n, 1)) (kk : Z Γ ω μ (pc + 1) L (.int (iZ n) :: st)) : Z Γ ω μ pc L st := by
  obtain ⟨p, l, e, R, s, m, args, below, meth, c, hV, hH0, hnl, hx, hb, hml, hown, hts, hK, hr, hlk, hfr, hlo⟩ := h
  intro H locs ls hH hS hl
  rw [hV]
  have K := kk H locs ls hH hS hl
  rw [hV] at K
  refine lv_iconst hx hb hdg rfl ?_
  exact K
theorem z_bipush (h : zC Γ ω own cc nL fr lo rt post) {n : Int} (hdg : decode cc pc = .ok (.bipush n, 2)) (hv : (Int8.ofInt n).toInt32 = iZ n) (kk : Z Γ ω μ (pc + 2) L (.int (iZ n) :: st)) : Z Γ ω μ pc L st := by
  obtain ⟨p, l, e, R, s, m, args, below, meth, c, hV, hH0, hnl, hx, hb, hml, hown, hts, hK, hr, hlk, hfr, hlo⟩ := h
  intro H locs ls hH hS hl
  rw [hV]
  have K := kk H locs ls hH hS hl
  rw [hV] at K
  refine lv_bipush hx hb hdg hv ?_
  exact K
theorem z_sipush (h : zC Γ ω own cc nL fr lo rt post) {n : Int} (hdg : decode cc pc = .ok (.sipush n, 3)) (hv : (Int16.ofInt n).toInt32 = iZ n) (kk : Z Γ ω μ (pc + 3) L (.int (iZ n) :: st)) : Z Γ ω μ pc L st := by
  obtain ⟨p, l, e, R, s, m, args, below, meth, c, hV, hH0, hnl, hx, hb, hml, hown, hts, hK, hr, hlk, hfr, hlo⟩ := h
  intro H locs ls hH hS hl
  rw [hV]
  have K := kk H locs ls hH hS hl
  rw [hV] at K
  refine lv_sipush hx hb hdg hv ?_
  exact K
theorem z_ldc (h : zC Γ ω own cc nL fr lo rt post) {i : Nat} {v : Int32} (n : Int) (hw : Cond.constant own i v ∈ AL) (hv : v = iZ n) (hdg : decode cc pc = .ok (.ldc i, 2)) (kk : Z Γ ω μ (pc + 2) L (.int (iZ n) :: st)) : Z Γ ω μ pc L st := by
  obtain ⟨p, l, e, R, s, m, args, below, meth, c, hV, hH0, hnl, hx, hb, hml, hown, hts, hK, hr, hlk, hfr, hlo⟩ := h
  intro H locs ls hH hS hl
  rw [hV]
  subst hv
  have K := kk H locs ls hH hS hl
  rw [hV] at K
  refine lv_ldc hx hb hown (hts _ hw) hdg ?_
  exact K
theorem z_ldcw (h : zC Γ ω own cc nL fr lo rt post) {i : Nat} {v : Int32} (n : Int) (hw : Cond.constant own i v ∈ AL) (hv : v = iZ n) (hdg : decode cc pc = .ok (.ldc_w i, 3)) (kk : Z Γ ω μ (pc + 3) L (.int (iZ n) :: st)) : Z Γ ω μ pc L st := by
  obtain ⟨p, l, e, R, s, m, args, below, meth, c, hV, hH0, hnl, hx, hb, hml, hown, hts, hK, hr, hlk, hfr, hlo⟩ := h
  intro H locs ls hH hS hl
  rw [hV]
  subst hv
  have K := kk H locs ls hH hS hl
  rw [hV] at K
  refine lv_ldcw hx hb hown (hts _ hw) hdg ?_
  exact K
theorem z_ldcf (h : zC Γ ω own cc nL fr lo rt post) {i : Nat} {v : UInt32} (hw : Cond.constantFloat own i v ∈ AL) (hdg : decode cc pc = .ok (.ldc i, 2)) (kk : Z Γ ω μ (pc + 2) L (.float v :: st)) : Z Γ ω μ pc L st := by
  obtain ⟨p, l, e, R, s, m, args, below, meth, c, hV, hH0, hnl, hx, hb, hml, hown, hts, hK, hr, hlk, hfr, hlo⟩ := h
  intro H locs ls hH hS hl
  rw [hV]
  have K := kk H locs ls hH hS hl
  rw [hV] at K
  refine lv_ldcf hx hb hown (hts _ hw) hdg ?_
  exact K
theorem z_ldc2 (h : zC Γ ω own cc nL fr lo rt post) {i : Nat} {v : Int64} (hw : Cond.constantLong own i v ∈ AL) (hdg : decode cc pc = .ok (.ldc2_w i, 3)) (kk : Z Γ ω μ (pc + 3) L (.long v :: st)) : Z Γ ω μ pc L st := by
  obtain ⟨p, l, e, R, s, m, args, below, meth, c, hV, hH0, hnl, hx, hb, hml, hown, hts, hK, hr, hlk, hfr, hlo⟩ := h
  intro H locs ls hH hS hl
  rw [hV]
  have K := kk H locs ls hH hS hl
  rw [hV] at K
  refine lv_ldc2 hx hb hown (hts _ hw) hdg ?_
  exact K
theorem z_lconst (h : zC Γ ω own cc nL fr lo rt post) {n : Fin 2} {v : Int64} (hdg : decode cc pc = .ok (.lconst n, 1)) (hv : Int64.ofNat (n : Nat) = v) (kk : Z Γ ω μ (pc + 1) L (.long v :: st)) : Z Γ ω μ pc L st := by
  obtain ⟨p, l, e, R, s, m, args, below, meth, c, hV, hH0, hnl, hx, hb, hml, hown, hts, hK, hr, hlk, hfr, hlo⟩ := h
  intro H locs ls hH hS hl
  rw [hV]
  have K := kk H locs ls hH hS hl
  rw [hV] at K
  refine lv_lconst hx hb hdg hv ?_
  exact K
theorem z_iadd (h : zC Γ ω own cc nL fr lo rt post) {a b : Int} (hdg : decode cc pc = .ok (.iadd, 1)) (kk : Z Γ ω μ (pc + 1) L (.int (iZ (a + b)) :: st)) : Z Γ ω μ pc L (.int (iZ b) :: .int (iZ a) :: st) := by
  obtain ⟨p, l, e, R, s, m, args, below, meth, c, hV, hH0, hnl, hx, hb, hml, hown, hts, hK, hr, hlk, hfr, hlo⟩ := h
  intro H locs ls hH hS hl
  rw [hV]
  have K := kk H locs ls hH hS hl
  rw [hV] at K
  refine lv_iadd hx hb hdg ?_
  rw [iZ_add]
  exact K
theorem z_isub (h : zC Γ ω own cc nL fr lo rt post) {a b : Int} (hdg : decode cc pc = .ok (.isub, 1)) (kk : Z Γ ω μ (pc + 1) L (.int (iZ (a - b)) :: st)) : Z Γ ω μ pc L (.int (iZ b) :: .int (iZ a) :: st) := by
  obtain ⟨p, l, e, R, s, m, args, below, meth, c, hV, hH0, hnl, hx, hb, hml, hown, hts, hK, hr, hlk, hfr, hlo⟩ := h
  intro H locs ls hH hS hl
  rw [hV]
  have K := kk H locs ls hH hS hl
  rw [hV] at K
  refine lv_isub hx hb hdg ?_
  rw [iZ_sub]
  exact K
theorem z_imul (h : zC Γ ω own cc nL fr lo rt post) {a b : Int} (hdg : decode cc pc = .ok (.imul, 1)) (kk : Z Γ ω μ (pc + 1) L (.int (iZ (a * b)) :: st)) : Z Γ ω μ pc L (.int (iZ b) :: .int (iZ a) :: st) := by
  obtain ⟨p, l, e, R, s, m, args, below, meth, c, hV, hH0, hnl, hx, hb, hml, hown, hts, hK, hr, hlk, hfr, hlo⟩ := h
  intro H locs ls hH hS hl
  rw [hV]
  have K := kk H locs ls hH hS hl
  rw [hV] at K
  refine lv_imul hx hb hdg ?_
  rw [iZ_mul]
  exact K
theorem z_ineg (h : zC Γ ω own cc nL fr lo rt post) {a : Int} (hdg : decode cc pc = .ok (.ineg, 1)) (kk : Z Γ ω μ (pc + 1) L (.int (iZ (-a)) :: st)) : Z Γ ω μ pc L (.int (iZ a) :: st) := by
  obtain ⟨p, l, e, R, s, m, args, below, meth, c, hV, hH0, hnl, hx, hb, hml, hown, hts, hK, hr, hlk, hfr, hlo⟩ := h
  intro H locs ls hH hS hl
  rw [hV]
  have K := kk H locs ls hH hS hl
  rw [hV] at K
  refine lv_ineg hx hb hdg ?_
  rw [iZ_neg]
  exact K
theorem z_idiv (h : zC Γ ω own cc nL fr lo rt post) {a b : Int} (hdg : decode cc pc = .ok (.idiv, 1)) (ha : 0 ≤ a ∧ a ≤ 2147483647) (hb0 : 0 < b ∧ b ≤ 2147483647) (kk : Z Γ ω μ (pc + 1) L (.int (iZ (a / b)) :: st)) : Z Γ ω μ pc L (.int (iZ b) :: .int (iZ a) :: st) := by
  obtain ⟨p, l, e, R, s, m, args, below, meth, c, hV, hH0, hnl, hx, hb, hml, hown, hts, hK, hr, hlk, hfr, hlo⟩ := h
  intro H locs ls hH hS hl
  rw [hV]
  have K := kk H locs ls hH hS hl
  rw [hV] at K
  refine lv_idiv hx hb hdg (fun q => ?_) ?_
  · have := (iZ_eq (a := b) (b := 0) ⟨by omega, hb0.2⟩ ⟨by omega, by omega⟩).mp q
    omega
  · rw [iZ_div ha hb0]
    exact K
theorem z_irem (h : zC Γ ω own cc nL fr lo rt post) {a b : Int} (hdg : decode cc pc = .ok (.irem, 1)) (ha : 0 ≤ a ∧ a ≤ 2147483647) (hb0 : 0 < b ∧ b ≤ 2147483647) (kk : Z Γ ω μ (pc + 1) L (.int (iZ (a % b)) :: st)) : Z Γ ω μ pc L (.int (iZ b) :: .int (iZ a) :: st) := by
  obtain ⟨p, l, e, R, s, m, args, below, meth, c, hV, hH0, hnl, hx, hb, hml, hown, hts, hK, hr, hlk, hfr, hlo⟩ := h
  intro H locs ls hH hS hl
  rw [hV]
  have K := kk H locs ls hH hS hl
  rw [hV] at K
  refine lv_irem hx hb hdg (fun q => ?_) ?_
  · have := (iZ_eq (a := b) (b := 0) ⟨by omega, hb0.2⟩ ⟨by omega, by omega⟩).mp q
    omega
  · rw [iZ_div ha hb0, iZ_mul, iZ_sub, show a - a / b * b = a % b by rw [Int.emod_def, Int.mul_comm]]
    exact K
theorem z_ladd (h : zC Γ ω own cc nL fr lo rt post) {a b : Int64} (hdg : decode cc pc = .ok (.ladd, 1)) (kk : Z Γ ω μ (pc + 1) L (.long (a + b) :: st)) : Z Γ ω μ pc L (.long b :: .long a :: st) := by
  obtain ⟨p, l, e, R, s, m, args, below, meth, c, hV, hH0, hnl, hx, hb, hml, hown, hts, hK, hr, hlk, hfr, hlo⟩ := h
  intro H locs ls hH hS hl
  rw [hV]
  have K := kk H locs ls hH hS hl
  rw [hV] at K
  refine lv_ladd hx hb hdg ?_
  exact K
theorem z_lsub (h : zC Γ ω own cc nL fr lo rt post) {a b : Int64} (hdg : decode cc pc = .ok (.lsub, 1)) (kk : Z Γ ω μ (pc + 1) L (.long (a - b) :: st)) : Z Γ ω μ pc L (.long b :: .long a :: st) := by
  obtain ⟨p, l, e, R, s, m, args, below, meth, c, hV, hH0, hnl, hx, hb, hml, hown, hts, hK, hr, hlk, hfr, hlo⟩ := h
  intro H locs ls hH hS hl
  rw [hV]
  have K := kk H locs ls hH hS hl
  rw [hV] at K
  refine lv_lsub hx hb hdg ?_
  exact K
theorem z_land (h : zC Γ ω own cc nL fr lo rt post) {a b : Int64} (hdg : decode cc pc = .ok (.land, 1)) (kk : Z Γ ω μ (pc + 1) L (.long (a &&& b) :: st)) : Z Γ ω μ pc L (.long b :: .long a :: st) := by
  obtain ⟨p, l, e, R, s, m, args, below, meth, c, hV, hH0, hnl, hx, hb, hml, hown, hts, hK, hr, hlk, hfr, hlo⟩ := h
  intro H locs ls hH hS hl
  rw [hV]
  have K := kk H locs ls hH hS hl
  rw [hV] at K
  refine lv_land hx hb hdg ?_
  exact K
theorem z_lor (h : zC Γ ω own cc nL fr lo rt post) {a b : Int64} (hdg : decode cc pc = .ok (.lor, 1)) (kk : Z Γ ω μ (pc + 1) L (.long (a ||| b) :: st)) : Z Γ ω μ pc L (.long b :: .long a :: st) := by
  obtain ⟨p, l, e, R, s, m, args, below, meth, c, hV, hH0, hnl, hx, hb, hml, hown, hts, hK, hr, hlk, hfr, hlo⟩ := h
  intro H locs ls hH hS hl
  rw [hV]
  have K := kk H locs ls hH hS hl
  rw [hV] at K
  refine lv_lor hx hb hdg ?_
  exact K
theorem z_lshl (h : zC Γ ω own cc nL fr lo rt post) {a v : Int64} {b : Int32} (hdg : decode cc pc = .ok (.lshl, 1)) (hv : a <<< (b.toInt64 &&& 63) = v) (kk : Z Γ ω μ (pc + 1) L (.long v :: st)) : Z Γ ω μ pc L (.int b :: .long a :: st) := by
  obtain ⟨p, l, e, R, s, m, args, below, meth, c, hV, hH0, hnl, hx, hb, hml, hown, hts, hK, hr, hlk, hfr, hlo⟩ := h
  intro H locs ls hH hS hl
  rw [hV]
  have K := kk H locs ls hH hS hl
  rw [hV] at K
  refine lv_lshl hx hb hdg hv ?_
  exact K
theorem z_lshr (h : zC Γ ω own cc nL fr lo rt post) {a v : Int64} {b : Int32} (hdg : decode cc pc = .ok (.lshr, 1)) (hv : a >>> (b.toInt64 &&& 63) = v) (kk : Z Γ ω μ (pc + 1) L (.long v :: st)) : Z Γ ω μ pc L (.int b :: .long a :: st) := by
  obtain ⟨p, l, e, R, s, m, args, below, meth, c, hV, hH0, hnl, hx, hb, hml, hown, hts, hK, hr, hlk, hfr, hlo⟩ := h
  intro H locs ls hH hS hl
  rw [hV]
  have K := kk H locs ls hH hS hl
  rw [hV] at K
  refine lv_lshr hx hb hdg hv ?_
  exact K
theorem z_lushr (h : zC Γ ω own cc nL fr lo rt post) {a v : Int64} {b : Int32} (hdg : decode cc pc = .ok (.lushr, 1)) (hv : (a.toUInt64 >>> (b.toInt64.toUInt64 &&& Int64.toUInt64 63)).toInt64 = v) (kk : Z Γ ω μ (pc + 1) L (.long v :: st)) : Z Γ ω μ pc L (.int b :: .long a :: st) := by
  obtain ⟨p, l, e, R, s, m, args, below, meth, c, hV, hH0, hnl, hx, hb, hml, hown, hts, hK, hr, hlk, hfr, hlo⟩ := h
  intro H locs ls hH hS hl
  rw [hV]
  have K := kk H locs ls hH hS hl
  rw [hV] at K
  refine lv_lushr hx hb hdg hv ?_
  exact K
theorem z_l2i (h : zC Γ ω own cc nL fr lo rt post) {a : Int64} {v : Int32} (hdg : decode cc pc = .ok (.l2i, 1)) (hv : a.toInt32 = v) (kk : Z Γ ω μ (pc + 1) L (.int v :: st)) : Z Γ ω μ pc L (.long a :: st) := by
  obtain ⟨p, l, e, R, s, m, args, below, meth, c, hV, hH0, hnl, hx, hb, hml, hown, hts, hK, hr, hlk, hfr, hlo⟩ := h
  intro H locs ls hH hS hl
  rw [hV]
  have K := kk H locs ls hH hS hl
  rw [hV] at K
  refine lv_l2i hx hb hdg hv ?_
  exact K
theorem z_iand (h : zC Γ ω own cc nL fr lo rt post) {a b : Int32} (hdg : decode cc pc = .ok (.iand, 1)) (kk : Z Γ ω μ (pc + 1) L (.int (a &&& b) :: st)) : Z Γ ω μ pc L (.int b :: .int a :: st) := by
  obtain ⟨p, l, e, R, s, m, args, below, meth, c, hV, hH0, hnl, hx, hb, hml, hown, hts, hK, hr, hlk, hfr, hlo⟩ := h
  intro H locs ls hH hS hl
  rw [hV]
  have K := kk H locs ls hH hS hl
  rw [hV] at K
  refine lv_iand hx hb hdg ?_
  exact K
theorem z_ior (h : zC Γ ω own cc nL fr lo rt post) {a b : Int32} (hdg : decode cc pc = .ok (.ior, 1)) (kk : Z Γ ω μ (pc + 1) L (.int (a ||| b) :: st)) : Z Γ ω μ pc L (.int b :: .int a :: st) := by
  obtain ⟨p, l, e, R, s, m, args, below, meth, c, hV, hH0, hnl, hx, hb, hml, hown, hts, hK, hr, hlk, hfr, hlo⟩ := h
  intro H locs ls hH hS hl
  rw [hV]
  have K := kk H locs ls hH hS hl
  rw [hV] at K
  refine lv_ior hx hb hdg ?_
  exact K
theorem z_ishl (h : zC Γ ω own cc nL fr lo rt post) {a b : Int32} (hdg : decode cc pc = .ok (.ishl, 1)) (kk : Z Γ ω μ (pc + 1) L (.int (a <<< (b &&& 31)) :: st)) : Z Γ ω μ pc L (.int b :: .int a :: st) := by
  obtain ⟨p, l, e, R, s, m, args, below, meth, c, hV, hH0, hnl, hx, hb, hml, hown, hts, hK, hr, hlk, hfr, hlo⟩ := h
  intro H locs ls hH hS hl
  rw [hV]
  have K := kk H locs ls hH hS hl
  rw [hV] at K
  refine lv_ishl hx hb hdg ?_
  exact K
theorem z_i2c (h : zC Γ ω own cc nL fr lo rt post) {a : Int} (hdg : decode cc pc = .ok (.i2c, 1)) (ha : 0 ≤ a ∧ a ≤ 65535) (kk : Z Γ ω μ (pc + 1) L (.int (iZ a) :: st)) : Z Γ ω μ pc L (.int (iZ a) :: st) := by
  obtain ⟨p, l, e, R, s, m, args, below, meth, c, hV, hH0, hnl, hx, hb, hml, hown, hts, hK, hr, hlk, hfr, hlo⟩ := h
  intro H locs ls hH hS hl
  rw [hV]
  have K := kk H locs ls hH hS hl
  rw [hV] at K
  refine lv_i2c hx hb hdg ?_ K
  obtain ⟨n, rfl⟩ := Int.eq_ofNat_of_zero_le ha.1
  have h1 : iZ (n : Int) = nI n := rfl
  rw [h1, pk_char, pk_tn (by omega), Nat.mod_eq_of_lt (by omega)]
theorem z_dup (h : zC Γ ω own cc nL fr lo rt post) {v : Value} (hdg : decode cc pc = .ok (.dup, 1)) (hv : v.category = 1) (kk : Z Γ ω μ (pc + 1) L (v :: v :: st)) : Z Γ ω μ pc L (v :: st) := by
  obtain ⟨p, l, e, R, s, m, args, below, meth, c, hV, hH0, hnl, hx, hb, hml, hown, hts, hK, hr, hlk, hfr, hlo⟩ := h
  intro H locs ls hH hS hl
  rw [hV]
  have K := kk H locs ls hH hS hl
  rw [hV] at K
  refine lv_dup hx hb hdg hv ?_
  exact K
theorem z_pop (h : zC Γ ω own cc nL fr lo rt post) {v : Value} (hdg : decode cc pc = .ok (.pop, 1)) (hv : v.category = 1) (kk : Z Γ ω μ (pc + 1) L st) : Z Γ ω μ pc L (v :: st) := by
  obtain ⟨p, l, e, R, s, m, args, below, meth, c, hV, hH0, hnl, hx, hb, hml, hown, hts, hK, hr, hlk, hfr, hlo⟩ := h
  intro H locs ls hH hS hl
  rw [hV]
  have K := kk H locs ls hH hS hl
  rw [hV] at K
  refine lv_pop hx hb hdg hv ?_
  exact K
theorem z_dup_x1 (h : zC Γ ω own cc nL fr lo rt post) {v u : Value} (hdg : decode cc pc = .ok (.dup_x1, 1)) (hv : v.category = 1) (hu : u.category = 1) (kk : Z Γ ω μ (pc + 1) L (v :: u :: v :: st)) : Z Γ ω μ pc L (v :: u :: st) := by
  obtain ⟨p, l, e, R, s, m, args, below, meth, c, hV, hH0, hnl, hx, hb, hml, hown, hts, hK, hr, hlk, hfr, hlo⟩ := h
  intro H locs ls hH hS hl
  rw [hV]
  have K := kk H locs ls hH hS hl
  rw [hV] at K
  refine lv_dup_x1 hx hb hdg hv hu ?_
  exact K
theorem z_dup2 (h : zC Γ ω own cc nL fr lo rt post) {v u : Value} (hdg : decode cc pc = .ok (.dup2, 1)) (hv : v.category = 1) (hu : u.category = 1) (kk : Z Γ ω μ (pc + 1) L (v :: u :: v :: u :: st)) : Z Γ ω μ pc L (v :: u :: st) := by
  obtain ⟨p, l, e, R, s, m, args, below, meth, c, hV, hH0, hnl, hx, hb, hml, hown, hts, hK, hr, hlk, hfr, hlo⟩ := h
  intro H locs ls hH hS hl
  rw [hV]
  have K := kk H locs ls hH hS hl
  rw [hV] at K
  refine lv_dup2_11 hx hb hdg hv hu ?_
  exact K
theorem z_goto (h : zC Γ ω own cc nL fr lo rt post) {off : Int} (tgt : Nat) (hdg : decode cc pc = .ok (.goto off, 3)) (ht : (pc : Int) + off = (tgt : Int)) (kk : Z Γ ω μ tgt L st) : Z Γ ω μ pc L st := by
  obtain ⟨p, l, e, R, s, m, args, below, meth, c, hV, hH0, hnl, hx, hb, hml, hown, hts, hK, hr, hlk, hfr, hlo⟩ := h
  intro H locs ls hH hS hl
  rw [hV]
  have K := kk H locs ls hH hS hl
  rw [hV] at K
  refine lv_goto hx hb hdg ht ?_
  exact K
theorem z_icmp_eq (h : zC Γ ω own cc nL fr lo rt post) {a b off : Int} (tgt : Nat) (hdg : decode cc pc = .ok (.if_icmp .eq off, 3)) (ht : (pc : Int) + off = (tgt : Int)) (ha : -2147483648 ≤ a ∧ a ≤ 2147483647) (hb1 : -2147483648 ≤ b ∧ b ≤ 2147483647) (kt : a = b → Z Γ ω μ tgt L st) (kf : ¬ (a = b) → Z Γ ω μ (pc + 3) L st) : Z Γ ω μ pc L (.int (iZ b) :: .int (iZ a) :: st) := by
  obtain ⟨p, l, e, R, s, m, args, below, meth, c, hV, hH0, hnl, hx, hb, hml, hown, hts, hK, hr, hlk, hfr, hlo⟩ := h
  intro H locs ls hH hS hl
  rw [hV]
  have KT := fun q => kt q H locs ls hH hS hl
  have KF := fun q => kf q H locs ls hH hS hl
  rw [hV] at KT KF
  exact lv_icmp_eq hx hb hdg ht (fun q => KT ((iZ_eq ha hb1).mp q)) (fun q => KF (fun z => q ((iZ_eq ha hb1).mpr z)))
theorem z_if_eq (h : zC Γ ω own cc nL fr lo rt post) {a off : Int} (tgt : Nat) (hdg : decode cc pc = .ok (.ifCond .eq off, 3)) (ht : (pc : Int) + off = (tgt : Int)) (ha : -2147483648 ≤ a ∧ a ≤ 2147483647) (kt : a = 0 → Z Γ ω μ tgt L st) (kf : ¬ (a = 0) → Z Γ ω μ (pc + 3) L st) : Z Γ ω μ pc L (.int (iZ a) :: st) := by
  have zb0 : (-2147483648 : Int) ≤ 0 ∧ (0 : Int) ≤ 2147483647 := by omega
  obtain ⟨p, l, e, R, s, m, args, below, meth, c, hV, hH0, hnl, hx, hb, hml, hown, hts, hK, hr, hlk, hfr, hlo⟩ := h
  intro H locs ls hH hS hl
  rw [hV]
  have KT := fun q => kt q H locs ls hH hS hl
  have KF := fun q => kf q H locs ls hH hS hl
  rw [hV] at KT KF
  exact lv_if_eq hx hb hdg ht (fun q => KT ((iZ_eq ha zb0).mp q)) (fun q => KF (fun z => q ((iZ_eq ha zb0).mpr z)))
theorem z_icmp_ne (h : zC Γ ω own cc nL fr lo rt post) {a b off : Int} (tgt : Nat) (hdg : decode cc pc = .ok (.if_icmp .ne off, 3)) (ht : (pc : Int) + off = (tgt : Int)) (ha : -2147483648 ≤ a ∧ a ≤ 2147483647) (hb1 : -2147483648 ≤ b ∧ b ≤ 2147483647) (kt : a ≠ b → Z Γ ω μ tgt L st) (kf : a = b → Z Γ ω μ (pc + 3) L st) : Z Γ ω μ pc L (.int (iZ b) :: .int (iZ a) :: st) := by
  obtain ⟨p, l, e, R, s, m, args, below, meth, c, hV, hH0, hnl, hx, hb, hml, hown, hts, hK, hr, hlk, hfr, hlo⟩ := h
  intro H locs ls hH hS hl
  rw [hV]
  have KT := fun q => kt q H locs ls hH hS hl
  have KF := fun q => kf q H locs ls hH hS hl
  rw [hV] at KT KF
  exact lv_icmp_ne hx hb hdg ht (fun q => KT ((not_congr (iZ_eq ha hb1)).mp q)) (fun q => KF ((iZ_eq ha hb1).mp q))
theorem z_if_ne (h : zC Γ ω own cc nL fr lo rt post) {a off : Int} (tgt : Nat) (hdg : decode cc pc = .ok (.ifCond .ne off, 3)) (ht : (pc : Int) + off = (tgt : Int)) (ha : -2147483648 ≤ a ∧ a ≤ 2147483647) (kt : a ≠ 0 → Z Γ ω μ tgt L st) (kf : a = 0 → Z Γ ω μ (pc + 3) L st) : Z Γ ω μ pc L (.int (iZ a) :: st) := by
  have zb0 : (-2147483648 : Int) ≤ 0 ∧ (0 : Int) ≤ 2147483647 := by omega
  obtain ⟨p, l, e, R, s, m, args, below, meth, c, hV, hH0, hnl, hx, hb, hml, hown, hts, hK, hr, hlk, hfr, hlo⟩ := h
  intro H locs ls hH hS hl
  rw [hV]
  have KT := fun q => kt q H locs ls hH hS hl
  have KF := fun q => kf q H locs ls hH hS hl
  rw [hV] at KT KF
  exact lv_if_ne hx hb hdg ht (fun q => KT ((not_congr (iZ_eq ha zb0)).mp q)) (fun q => KF ((iZ_eq ha zb0).mp q))
theorem z_icmp_lt (h : zC Γ ω own cc nL fr lo rt post) {a b off : Int} (tgt : Nat) (hdg : decode cc pc = .ok (.if_icmp .lt off, 3)) (ht : (pc : Int) + off = (tgt : Int)) (ha : -2147483648 ≤ a ∧ a ≤ 2147483647) (hb1 : -2147483648 ≤ b ∧ b ≤ 2147483647) (kt : a < b → Z Γ ω μ tgt L st) (kf : ¬ (a < b) → Z Γ ω μ (pc + 3) L st) : Z Γ ω μ pc L (.int (iZ b) :: .int (iZ a) :: st) := by
  obtain ⟨p, l, e, R, s, m, args, below, meth, c, hV, hH0, hnl, hx, hb, hml, hown, hts, hK, hr, hlk, hfr, hlo⟩ := h
  intro H locs ls hH hS hl
  rw [hV]
  have KT := fun q => kt q H locs ls hH hS hl
  have KF := fun q => kf q H locs ls hH hS hl
  rw [hV] at KT KF
  exact lv_icmp_lt hx hb hdg ht (fun q => KT ((iZ_lt ha hb1).mp q)) (fun q => KF (fun z => q ((iZ_lt ha hb1).mpr z)))
theorem z_if_lt (h : zC Γ ω own cc nL fr lo rt post) {a off : Int} (tgt : Nat) (hdg : decode cc pc = .ok (.ifCond .lt off, 3)) (ht : (pc : Int) + off = (tgt : Int)) (ha : -2147483648 ≤ a ∧ a ≤ 2147483647) (kt : a < 0 → Z Γ ω μ tgt L st) (kf : ¬ (a < 0) → Z Γ ω μ (pc + 3) L st) : Z Γ ω μ pc L (.int (iZ a) :: st) := by
  have zb0 : (-2147483648 : Int) ≤ 0 ∧ (0 : Int) ≤ 2147483647 := by omega
  obtain ⟨p, l, e, R, s, m, args, below, meth, c, hV, hH0, hnl, hx, hb, hml, hown, hts, hK, hr, hlk, hfr, hlo⟩ := h
  intro H locs ls hH hS hl
  rw [hV]
  have KT := fun q => kt q H locs ls hH hS hl
  have KF := fun q => kf q H locs ls hH hS hl
  rw [hV] at KT KF
  exact lv_if_lt hx hb hdg ht (fun q => KT ((iZ_lt ha zb0).mp q)) (fun q => KF (fun z => q ((iZ_lt ha zb0).mpr z)))
theorem z_icmp_ge (h : zC Γ ω own cc nL fr lo rt post) {a b off : Int} (tgt : Nat) (hdg : decode cc pc = .ok (.if_icmp .ge off, 3)) (ht : (pc : Int) + off = (tgt : Int)) (ha : -2147483648 ≤ a ∧ a ≤ 2147483647) (hb1 : -2147483648 ≤ b ∧ b ≤ 2147483647) (kt : b ≤ a → Z Γ ω μ tgt L st) (kf : ¬ (b ≤ a) → Z Γ ω μ (pc + 3) L st) : Z Γ ω μ pc L (.int (iZ b) :: .int (iZ a) :: st) := by
  obtain ⟨p, l, e, R, s, m, args, below, meth, c, hV, hH0, hnl, hx, hb, hml, hown, hts, hK, hr, hlk, hfr, hlo⟩ := h
  intro H locs ls hH hS hl
  rw [hV]
  have KT := fun q => kt q H locs ls hH hS hl
  have KF := fun q => kf q H locs ls hH hS hl
  rw [hV] at KT KF
  exact lv_icmp_ge hx hb hdg ht (fun q => KT ((iZ_le hb1 ha).mp q)) (fun q => KF (fun z => q ((iZ_le hb1 ha).mpr z)))
theorem z_if_ge (h : zC Γ ω own cc nL fr lo rt post) {a off : Int} (tgt : Nat) (hdg : decode cc pc = .ok (.ifCond .ge off, 3)) (ht : (pc : Int) + off = (tgt : Int)) (ha : -2147483648 ≤ a ∧ a ≤ 2147483647) (kt : 0 ≤ a → Z Γ ω μ tgt L st) (kf : ¬ (0 ≤ a) → Z Γ ω μ (pc + 3) L st) : Z Γ ω μ pc L (.int (iZ a) :: st) := by
  have zb0 : (-2147483648 : Int) ≤ 0 ∧ (0 : Int) ≤ 2147483647 := by omega
  obtain ⟨p, l, e, R, s, m, args, below, meth, c, hV, hH0, hnl, hx, hb, hml, hown, hts, hK, hr, hlk, hfr, hlo⟩ := h
  intro H locs ls hH hS hl
  rw [hV]
  have KT := fun q => kt q H locs ls hH hS hl
  have KF := fun q => kf q H locs ls hH hS hl
  rw [hV] at KT KF
  exact lv_if_ge hx hb hdg ht (fun q => KT ((iZ_le zb0 ha).mp q)) (fun q => KF (fun z => q ((iZ_le zb0 ha).mpr z)))
theorem z_icmp_gt (h : zC Γ ω own cc nL fr lo rt post) {a b off : Int} (tgt : Nat) (hdg : decode cc pc = .ok (.if_icmp .gt off, 3)) (ht : (pc : Int) + off = (tgt : Int)) (ha : -2147483648 ≤ a ∧ a ≤ 2147483647) (hb1 : -2147483648 ≤ b ∧ b ≤ 2147483647) (kt : b < a → Z Γ ω μ tgt L st) (kf : ¬ (b < a) → Z Γ ω μ (pc + 3) L st) : Z Γ ω μ pc L (.int (iZ b) :: .int (iZ a) :: st) := by
  obtain ⟨p, l, e, R, s, m, args, below, meth, c, hV, hH0, hnl, hx, hb, hml, hown, hts, hK, hr, hlk, hfr, hlo⟩ := h
  intro H locs ls hH hS hl
  rw [hV]
  have KT := fun q => kt q H locs ls hH hS hl
  have KF := fun q => kf q H locs ls hH hS hl
  rw [hV] at KT KF
  exact lv_icmp_gt hx hb hdg ht (fun q => KT ((iZ_lt hb1 ha).mp q)) (fun q => KF (fun z => q ((iZ_lt hb1 ha).mpr z)))
theorem z_if_gt (h : zC Γ ω own cc nL fr lo rt post) {a off : Int} (tgt : Nat) (hdg : decode cc pc = .ok (.ifCond .gt off, 3)) (ht : (pc : Int) + off = (tgt : Int)) (ha : -2147483648 ≤ a ∧ a ≤ 2147483647) (kt : 0 < a → Z Γ ω μ tgt L st) (kf : ¬ (0 < a) → Z Γ ω μ (pc + 3) L st) : Z Γ ω μ pc L (.int (iZ a) :: st) := by
  have zb0 : (-2147483648 : Int) ≤ 0 ∧ (0 : Int) ≤ 2147483647 := by omega
  obtain ⟨p, l, e, R, s, m, args, below, meth, c, hV, hH0, hnl, hx, hb, hml, hown, hts, hK, hr, hlk, hfr, hlo⟩ := h
  intro H locs ls hH hS hl
  rw [hV]
  have KT := fun q => kt q H locs ls hH hS hl
  have KF := fun q => kf q H locs ls hH hS hl
  rw [hV] at KT KF
  exact lv_if_gt hx hb hdg ht (fun q => KT ((iZ_lt zb0 ha).mp q)) (fun q => KF (fun z => q ((iZ_lt zb0 ha).mpr z)))
theorem z_icmp_le (h : zC Γ ω own cc nL fr lo rt post) {a b off : Int} (tgt : Nat) (hdg : decode cc pc = .ok (.if_icmp .le off, 3)) (ht : (pc : Int) + off = (tgt : Int)) (ha : -2147483648 ≤ a ∧ a ≤ 2147483647) (hb1 : -2147483648 ≤ b ∧ b ≤ 2147483647) (kt : a ≤ b → Z Γ ω μ tgt L st) (kf : ¬ (a ≤ b) → Z Γ ω μ (pc + 3) L st) : Z Γ ω μ pc L (.int (iZ b) :: .int (iZ a) :: st) := by
  obtain ⟨p, l, e, R, s, m, args, below, meth, c, hV, hH0, hnl, hx, hb, hml, hown, hts, hK, hr, hlk, hfr, hlo⟩ := h
  intro H locs ls hH hS hl
  rw [hV]
  have KT := fun q => kt q H locs ls hH hS hl
  have KF := fun q => kf q H locs ls hH hS hl
  rw [hV] at KT KF
  exact lv_icmp_le hx hb hdg ht (fun q => KT ((iZ_le ha hb1).mp q)) (fun q => KF (fun z => q ((iZ_le ha hb1).mpr z)))
theorem z_if_le (h : zC Γ ω own cc nL fr lo rt post) {a off : Int} (tgt : Nat) (hdg : decode cc pc = .ok (.ifCond .le off, 3)) (ht : (pc : Int) + off = (tgt : Int)) (ha : -2147483648 ≤ a ∧ a ≤ 2147483647) (kt : a ≤ 0 → Z Γ ω μ tgt L st) (kf : ¬ (a ≤ 0) → Z Γ ω μ (pc + 3) L st) : Z Γ ω μ pc L (.int (iZ a) :: st) := by
  have zb0 : (-2147483648 : Int) ≤ 0 ∧ (0 : Int) ≤ 2147483647 := by omega
  obtain ⟨p, l, e, R, s, m, args, below, meth, c, hV, hH0, hnl, hx, hb, hml, hown, hts, hK, hr, hlk, hfr, hlo⟩ := h
  intro H locs ls hH hS hl
  rw [hV]
  have KT := fun q => kt q H locs ls hH hS hl
  have KF := fun q => kf q H locs ls hH hS hl
  rw [hV] at KT KF
  exact lv_if_le hx hb hdg ht (fun q => KT ((iZ_le ha zb0).mp q)) (fun q => KF (fun z => q ((iZ_le ha zb0).mpr z)))
theorem z_tableIn (h : zC Γ ω own cc nL fr lo rt post) {dflt l0 h0 off : Int} {offs : Array Int} {len : Nat} {a : Int} (tgt : Nat) (hdg : decode cc pc = .ok (.tableswitch dflt l0 h0 offs, len)) (ha : -2147483648 ≤ a ∧ a ≤ 2147483647) (h1 : l0 ≤ a) (h2 : a ≤ h0) (ho : offs[(a - l0).toNat]? = some off) (ht : (pc : Int) + off = (tgt : Int)) (kk : Z Γ ω μ tgt L st) : Z Γ ω μ pc L (.int (iZ a) :: st) := by
  obtain ⟨p, l, e, R, s, m, args, below, meth, c, hV, hH0, hnl, hx, hb, hml, hown, hts, hK, hr, hlk, hfr, hlo⟩ := h
  intro H locs ls hH hS hl
  rw [hV]
  have K := kk H locs ls hH hS hl
  rw [hV] at K
  exact lv_tableIn hx hb hdg (by rw [iZ_toInt ha]; omega) (by rw [iZ_toInt ha]; omega) (by rw [iZ_toInt ha]; exact ho) ht K
theorem z_tableOut (h : zC Γ ω own cc nL fr lo rt post) {dflt l0 h0 : Int} {offs : Array Int} {len : Nat} {a : Int} (tgt : Nat) (hdg : decode cc pc = .ok (.tableswitch dflt l0 h0 offs, len)) (ha : -2147483648 ≤ a ∧ a ≤ 2147483647) (h1 : a < l0 ∨ h0 < a) (ht : (pc : Int) + dflt = (tgt : Int)) (kk : Z Γ ω μ tgt L st) : Z Γ ω μ pc L (.int (iZ a) :: st) := by
  obtain ⟨p, l, e, R, s, m, args, below, meth, c, hV, hH0, hnl, hx, hb, hml, hown, hts, hK, hr, hlk, hfr, hlo⟩ := h
  intro H locs ls hH hS hl
  rw [hV]
  have K := kk H locs ls hH hS hl
  rw [hV] at K
  exact lv_tableOut hx hb hdg (by rw [iZ_toInt ha]; exact h1) ht K
theorem z_lookup (h : zC Γ ω own cc nL fr lo rt post) {dflt off : Int} {ps : Array (Int × Int)} {len : Nat} {a : Int} (tgt : Nat) (hdg : decode cc pc = .ok (.lookupswitch dflt ps, len)) (ha : -2147483648 ≤ a ∧ a ≤ 2147483647) (hp : (ps.toList.zip (ps.toList.drop 1)).all (fun (a, next) => a.1 < next.1) = true) (ho : Op.lookupswitch.offset ps.toList dflt a = off) (ht : (pc : Int) + off = (tgt : Int)) (kk : Z Γ ω μ tgt L st) : Z Γ ω μ pc L (.int (iZ a) :: st) := by
  obtain ⟨p, l, e, R, s, m, args, below, meth, c, hV, hH0, hnl, hx, hb, hml, hown, hts, hK, hr, hlk, hfr, hlo⟩ := h
  intro H locs ls hH hS hl
  rw [hV]
  have K := kk H locs ls hH hS hl
  rw [hV] at K
  exact lv_lookup hx hb hdg hp (by rw [iZ_toInt ha]; exact ho) ht K
/-- a truth as an int -/
abbrev zB (P : Prop) [Decidable P] : Int := if P then 1 else 0
theorem zB_t {P : Prop} [Decidable P] (h : P) : zB P = 1 := if_pos h
theorem zB_f {P : Prop} [Decidable P] (h : ¬ P) : zB P = 0 := if_neg h
theorem zB_r (P : Prop) [Decidable P] : -2147483648 ≤ zB P ∧ zB P ≤ 2147483647 := by
  unfold zB; split <;> omega
theorem z_ifb_eq (h : zC Γ ω own cc nL fr lo rt post) {P : Prop} [Decidable P] {off : Int} (tgt : Nat) (hdg : decode cc pc = .ok (.ifCond .eq off, 3)) (ht : (pc : Int) + off = (tgt : Int)) (kt : ¬ P → Z Γ ω μ tgt L st) (kf : P → Z Γ ω μ (pc + 3) L st) : Z Γ ω μ pc L (.int (iZ (zB P)) :: st) := by
  refine z_if_eq h tgt hdg ht (zB_r P) (fun q => kt (fun z => ?_)) (fun q => kf ?_)
  · rw [zB_t z] at q; omega
  · by_cases z : P
    · exact z
    · rw [zB_f z] at q; omega
theorem z_ifb_ne (h : zC Γ ω own cc nL fr lo rt post) {P : Prop} [Decidable P] {off : Int} (tgt : Nat) (hdg : decode cc pc = .ok (.ifCond .ne off, 3)) (ht : (pc : Int) + off = (tgt : Int)) (kt : P → Z Γ ω μ tgt L st) (kf : ¬ P → Z Γ ω μ (pc + 3) L st) : Z Γ ω μ pc L (.int (iZ (zB P)) :: st) := by
  refine z_if_ne h tgt hdg ht (zB_r P) (fun q => kt ?_) (fun q => kf (fun z => ?_))
  · by_cases z : P
    · exact z
    · rw [zB_f z] at q; omega
  · rw [zB_t z] at q; omega
theorem z_weak {L' : List (Nat × Value)} (hs : zsub L' L) (kk : Z Γ ω μ pc L' st) : Z Γ ω μ pc L st := fun H locs ls hH hS hl => kk H locs ls hH hS ⟨hl.1, hl.2.1, fun k v hk => hl.2.2 k v (zsub_lk hs hk)⟩
theorem z_mem {μ' : zM} (e : μ = μ') (kk : Z Γ ω μ' pc L st) : Z Γ ω μ pc L st := e ▸ kk
theorem z_nm (kk : ∀ μ1 : zM, μ1 = μ → Z Γ ω μ1 pc L st) : Z Γ ω μ pc L st := kk μ rfl
theorem z_nmi {x : Int32} (kk : ∀ y : Int32, y = x → Z Γ ω μ pc L (.int y :: st)) : Z Γ ω μ pc L (.int x :: st) := kk x rfl
theorem z_topr {a b : Nat} (e : a = b) (kk : Z Γ ω μ pc L (.ref b :: st)) : Z Γ ω μ pc L (.ref a :: st) := e ▸ kk
theorem z_topn {a : Int} (kk : ∀ z : Int, z = a → Z Γ ω μ pc L (.int (iZ z) :: st)) : Z Γ ω μ pc L (.int (iZ a) :: st) := kk a rfl
theorem z_top {a b : Int} (e : a = b) (kk : Z Γ ω μ pc L (.int (iZ b) :: st)) : Z Γ ω μ pc L (.int (iZ a) :: st) := e ▸ kk
/-! the heap -/
theorem z_get (h : zC Γ ω own cc nL fr lo rt post) {ci N index : Nat} {C ref : String} {T : u_T} (hin : ∀ w ∈ u_ws C T N, w ∈ AL) (hc : zcl[ci]? = some (C, T, N)) (k : Nat) (hk : k < N) (hlink : Cond.fieldLink own index ref (T k).2.1 (T k).2.2.1 ∈ AL) (href : ref = (T k).1) (hdg : decode cc pc = .ok (.getfield index, 3))
    {c : Int} (hcl : 0 ≤ c ∧ c < (ω.2.2.1 : Int)) {F : (Int → Int) → List Value} (he : ∀ r, ω.2.2.2.2 c r = .inr (ci, F r)) {v : Value} (hv : (F (μ c))[k]? = some v) (kk : Z Γ ω μ (pc + 3) L (v :: st)) : Z Γ ω μ pc L (.ref (ω.2.2.2.1 c) :: st) := by
  obtain ⟨p, l, e, R, s, m, args, below, meth, cq, hV, hH0, hnl, hx, hb, hml, hown, hts, hK, hr, hlk, hfr, hlo⟩ := h
  intro H locs ls hH hS hl
  have K := kk H locs ls hH hS hl
  rw [hV] at K ⊢
  subst href
  exact va_get hx hb hts hin hown hK.1 hH.1 c.toNat (by rw [zws_at hcl.1 hcl.2, he]) hc k hk (hts _ hlink) (fun _ h9 => h9) hv hdg K
theorem z_put (h : zC Γ ω own cc nL fr lo rt post) {ci N index : Nat} {C ref : String} {T : u_T} (hin : ∀ w ∈ u_ws C T N, w ∈ AL) (hc : zcl[ci]? = some (C, T, N)) (ty0 : Nat → FieldType) (hty : ∀ k, k < N → parseFieldDescriptor (T k).2.2.1 = some (ty0 k)) (hnm : ∀ a, a < N → ∀ b, b < N → a ≠ b → (T a).2.1 ≠ (T b).2.1) (k : Nat) (hk : k < N) (hfin : (T k).2.2.2 = false) (hti : ty0 k = .int) (kI : Int) (hki : kI = (k : Int)) (hlink : Cond.fieldLink own index ref (T k).2.1 (T k).2.2.1 ∈ AL) (href : ref = (T k).1) (hdg : decode cc pc = .ok (.putfield index, 3))
    {c : Int} (hcl : 0 ≤ c ∧ c < (ω.2.2.1 : Int)) {F : (Int → Int) → List Value} (he : ∀ r, ω.2.2.2.2 c r = .inr (ci, F r)) {z : Int} (he2 : ∀ r : Int → Int, F (fun i' => if i' = kI then z else r i') = (F r).set k (.int (iZ z))) (hl9 : ∀ r, k < (F r).length) (kk : Z Γ ω (zup μ c kI z) (pc + 3) L st) : Z Γ ω μ pc L (.int (iZ z) :: .ref (ω.2.2.2.1 c) :: st) := by
  obtain ⟨p, l, e, R, s, m, args, below, meth, cq, hV, hH0, hnl, hx, hb, hml, hown, hts, hK, hr, hlk, hfr, hlo⟩ := h
  intro H locs ls hH hS hl
  have K := fun H locs hH hS => kk H locs ls hH hS hl
  rw [hV] at K ⊢
  subst href
  refine va_put hx hb hts hin ty0 hty hnm hown hK.1 hH.1 hH.2 hS c.toNat (by rw [zws_at hcl.1 hcl.2, he]) hc k hk (hts _ hlink) (fun _ h9 => h9) hfin (ty := .int) (by rw [hty k hk, hti]) rfl rfl (hl9 _) hdg (fun H1 locs1 hP hD hS1 => ?_)
  rw [zws_set (μ' := zup μ c kI z) hcl.1 hcl.2 (by rw [zup_c, he, he2]) (fun c' hc' => zup_o hc')] at hP hD
  exact K H1 locs1 ⟨hP, hD⟩ hS1
theorem z_putc (h : zC Γ ω own cc nL fr lo rt post) {ci N index : Nat} {C ref : String} {T : u_T} (hin : ∀ w ∈ u_ws C T N, w ∈ AL) (hc : zcl[ci]? = some (C, T, N)) (ty0 : Nat → FieldType) (hty : ∀ k, k < N → parseFieldDescriptor (T k).2.2.1 = some (ty0 k)) (hnm : ∀ a, a < N → ∀ b, b < N → a ≠ b → (T a).2.1 ≠ (T b).2.1) (k : Nat) (hk : k < N) (hfin : (T k).2.2.2 = false) (hti : ty0 k = .char) (kI : Int) (hki : kI = (k : Int)) (hlink : Cond.fieldLink own index ref (T k).2.1 (T k).2.2.1 ∈ AL) (href : ref = (T k).1) (hdg : decode cc pc = .ok (.putfield index, 3))
    {c : Int} (hcl : 0 ≤ c ∧ c < (ω.2.2.1 : Int)) {F : (Int → Int) → List Value} (he : ∀ r, ω.2.2.2.2 c r = .inr (ci, F r)) {z : Int} (hz : 0 ≤ z ∧ z ≤ 65535) (he2 : ∀ r : Int → Int, F (fun i' => if i' = kI then z else r i') = (F r).set k (.int (iZ z))) (hl9 : ∀ r, k < (F r).length) (kk : Z Γ ω (zup μ c kI z) (pc + 3) L st) : Z Γ ω μ pc L (.int (iZ z) :: .ref (ω.2.2.2.1 c) :: st) := by
  obtain ⟨p, l, e, R, s, m, args, below, meth, cq, hV, hH0, hnl, hx, hb, hml, hown, hts, hK, hr, hlk, hfr, hlo⟩ := h
  intro H locs ls hH hS hl
  have K := fun H locs hH hS => kk H locs ls hH hS hl
  rw [hV] at K ⊢
  subst href
  have hcn : narrow .char (.int (iZ z)) = .int (iZ z) ∧ fits .char (.int (iZ z)) = true := by
    obtain ⟨n, rfl⟩ := Int.eq_ofNat_of_zero_le hz.1
    exact pk_charN (q := n) (by omega)
  refine va_put hx hb hts hin ty0 hty hnm hown hK.1 hH.1 hH.2 hS c.toNat (by rw [zws_at hcl.1 hcl.2, he]) hc k hk (hts _ hlink) (fun _ h9 => h9) hfin (ty := .char) (by rw [hty k hk, hti]) hcn.1 hcn.2 (hl9 _) hdg (fun H1 locs1 hP hD hS1 => ?_)
  rw [zws_set (μ' := zup μ c kI z) hcl.1 hcl.2 (by rw [zup_c, he, he2]) (fun c' hc' => zup_o hc')] at hP hD
  exact K H1 locs1 ⟨hP, hD⟩ hS1
theorem z_iald (h : zC Γ ω own cc nL fr lo rt post) (hdg : decode cc pc = .ok (.iaload, 1)) {c i : Int} (hcl : 0 ≤ c ∧ c < (ω.2.2.1 : Int)) {n : Nat} (he : ∀ r, ω.2.2.2.2 c r = .inl (ω.2.1 0, n, .inl (fun j => iZ (r j)))) (hi0 : 0 ≤ i) (hi : i < (n : Int)) (hn9 : n ≤ 2000000000) (kk : Z Γ ω μ (pc + 1) L (.int (iZ (μ c i)) :: st)) : Z Γ ω μ pc L (.int (iZ i) :: .ref (ω.2.2.2.1 c) :: st) := by
  obtain ⟨p, l, e, R, s, m, args, below, meth, cq, hV, hH0, hnl, hx, hb, hml, hown, hts, hK, hr, hlk, hfr, hlo⟩ := h
  intro H locs ls hH hS hl
  have K := kk H locs ls hH hS hl
  rw [hV] at K ⊢
  refine va_iald hx hb hK.1 hH.1 c.toNat 0 (by rw [zws_at hcl.1 hcl.2, he]) rfl (iZ_in hi0 hi (by omega)) hdg ?_
  rw [iZ_clamp hi0 (by omega), Int.toNat_of_nonneg hi0]
  exact K
theorem z_cald (h : zC Γ ω own cc nL fr lo rt post) (hdg : decode cc pc = .ok (.caload, 1)) {c i : Int} (hcl : 0 ≤ c ∧ c < (ω.2.2.1 : Int)) {n : Nat} (he : ∀ r, ω.2.2.2.2 c r = .inl (ω.2.1 1, n, .inl (fun j => iZ (r j)))) (hi0 : 0 ≤ i) (hi : i < (n : Int)) (hn9 : n ≤ 2000000000) (kk : Z Γ ω μ (pc + 1) L (.int (iZ (μ c i)) :: st)) : Z Γ ω μ pc L (.int (iZ i) :: .ref (ω.2.2.2.1 c) :: st) := by
  obtain ⟨p, l, e, R, s, m, args, below, meth, cq, hV, hH0, hnl, hx, hb, hml, hown, hts, hK, hr, hlk, hfr, hlo⟩ := h
  intro H locs ls hH hS hl
  have K := kk H locs ls hH hS hl
  rw [hV] at K ⊢
  refine va_cald hx hb hK.1 hH.1 c.toNat 1 (by rw [zws_at hcl.1 hcl.2, he]) rfl (iZ_in hi0 hi (by omega)) hdg ?_
  rw [iZ_clamp hi0 (by omega), Int.toNat_of_nonneg hi0]
  exact K
theorem z_fup {μ : zM} {c i z : Int} (hi0 : 0 ≤ i) : (fun j : Nat => iZ (zup μ c i z c j)) = upd (fun j : Nat => iZ (μ c j)) i.toNat (iZ z) := by
  funext j
  unfold zup upd
  by_cases hj : (j : Int) = i
  · have : j = i.toNat := by omega
    subst this
    simp [Int.toNat_of_nonneg hi0]
  · have : ¬ j = i.toNat := by omega
    simp [hj, this]
theorem z_iast (h : zC Γ ω own cc nL fr lo rt post) (hdg : decode cc pc = .ok (.iastore, 1)) {c i z : Int} (hcl : 0 ≤ c ∧ c < (ω.2.2.1 : Int)) {n : Nat} (he : ∀ r, ω.2.2.2.2 c r = .inl (ω.2.1 0, n, .inl (fun j => iZ (r j)))) (hi0 : 0 ≤ i) (hi : i < (n : Int)) (hn9 : n ≤ 2000000000) (kk : Z Γ ω (zup μ c i z) (pc + 1) L st) : Z Γ ω μ pc L (.int (iZ z) :: .int (iZ i) :: .ref (ω.2.2.2.1 c) :: st) := by
  obtain ⟨p, l, e, R, s, m, args, below, meth, cq, hV, hH0, hnl, hx, hb, hml, hown, hts, hK, hr, hlk, hfr, hlo⟩ := h
  intro H locs ls hH hS hl
  have K := fun H locs hH hS => kk H locs ls hH hS hl
  rw [hV] at K ⊢
  refine va_iast hx hb hK.1 hH.1 hH.2 hS c.toNat 0 (by rw [zws_at hcl.1 hcl.2, he]) rfl (iZ_in hi0 hi (by omega)) hdg (fun H1 locs1 hP hD hS1 => ?_)
  rw [zws_set (μ' := zup μ c i z) hcl.1 hcl.2 (by rw [he, z_fup hi0, iZ_clamp hi0 (by omega)]) (fun c' hc' => zup_o hc')] at hP hD
  exact K H1 locs1 ⟨hP, hD⟩ hS1
theorem z_cast (h : zC Γ ω own cc nL fr lo rt post) (hdg : decode cc pc = .ok (.castore, 1)) {c i z : Int} (hcl : 0 ≤ c ∧ c < (ω.2.2.1 : Int)) {n : Nat} (he : ∀ r, ω.2.2.2.2 c r = .inl (ω.2.1 1, n, .inl (fun j => iZ (r j)))) (hi0 : 0 ≤ i) (hi : i < (n : Int)) (hn9 : n ≤ 2000000000) (hz : 0 ≤ z ∧ z ≤ 65535) (kk : Z Γ ω (zup μ c i z) (pc + 1) L st) : Z Γ ω μ pc L (.int (iZ z) :: .int (iZ i) :: .ref (ω.2.2.2.1 c) :: st) := by
  obtain ⟨p, l, e, R, s, m, args, below, meth, cq, hV, hH0, hnl, hx, hb, hml, hown, hts, hK, hr, hlk, hfr, hlo⟩ := h
  intro H locs ls hH hS hl
  have K := fun H locs hH hS => kk H locs ls hH hS hl
  rw [hV] at K ⊢
  have hcn : vp_nar .char (iZ z) = iZ z := by
    obtain ⟨n, rfl⟩ := Int.eq_ofNat_of_zero_le hz.1
    have h1 := (pk_charN (q := n) (by omega)).1
    show (match narrow .char (.int (nI n)) with | .int v => v | _ => 0) = nI n
    rw [h1]
  refine va_cast hx hb hK.1 hH.1 hH.2 hS c.toNat 1 (by rw [zws_at hcl.1 hcl.2, he]) rfl (iZ_in hi0 hi (by omega)) hdg (fun H1 locs1 hP hD hS1 => ?_)
  rw [zws_set (μ' := zup μ c i z) hcl.1 hcl.2 (by rw [he, z_fup hi0, iZ_clamp hi0 (by omega), hcn]) (fun c' hc' => zup_o hc')] at hP hD
  exact K H1 locs1 ⟨hP, hD⟩ hS1
theorem z_aald (h : zC Γ ω own cc nL fr lo rt post) (hdg : decode cc pc = .ok (.aaload, 1)) (t0 : Nat) {C : String} (ht : (zty ω.2.1)[t0]? = some (ω.2.1 t0, .object C)) {c i : Int} (hcl : 0 ≤ c ∧ c < (ω.2.2.1 : Int)) {n : Nat} (f : (Int → Int) → Int → Int) (he : ∀ r, ω.2.2.2.2 c r = .inl (ω.2.1 t0, n, .inr (.inr (.inr (.inr (fun j => some (ω.2.2.2.1 (f r j)))))))) (hi0 : 0 ≤ i) (hi : i < (n : Int)) (hn9 : n ≤ 2000000000) (kk : Z Γ ω μ (pc + 1) L (.ref (ω.2.2.2.1 (f (μ c) i)) :: st)) : Z Γ ω μ pc L (.int (iZ i) :: .ref (ω.2.2.2.1 c) :: st) := by
  obtain ⟨p, l, e, R, s, m, args, below, meth, cq, hV, hH0, hnl, hx, hb, hml, hown, hts, hK, hr, hlk, hfr, hlo⟩ := h
  intro H locs ls hH hS hl
  have K := kk H locs ls hH hS hl
  rw [hV] at K ⊢
  refine va_aldq hx hb hK.1 hH.1 c.toNat t0 (by rw [zws_at hcl.1 hcl.2, he]) ht (iZ_in hi0 hi (by omega)) hdg ?_
  rw [iZ_clamp hi0 (by omega), Int.toNat_of_nonneg hi0]
  exact K
theorem z_aast (h : zC Γ ω own cc nL fr lo rt post) (hdg : decode cc pc = .ok (.aastore, 1)) (t0 : Nat) {r0 : vw_C} {ci : Nat} (ht : (zty ω.2.1)[t0]? = some (ω.2.1 t0, .object r0.1)) (hci : zcl[ci]? = some r0) {c i z o : Int} (hcl : 0 ≤ c ∧ c < (ω.2.2.1 : Int)) {n : Nat} (f : (Int → Int) → Int → Int) (he : ∀ r, ω.2.2.2.2 c r = .inl (ω.2.1 t0, n, .inr (.inr (.inr (.inr (fun j => some (ω.2.2.2.1 (f r j)))))))) (hf : ∀ (r : Int → Int) (j : Int), f (fun i' => if i' = i then z else r i') j = if j = i then o else f r j) (hcl2 : 0 ≤ o ∧ o < (ω.2.2.1 : Int)) {F : (Int → Int) → List Value} (he2 : ∀ r, ω.2.2.2.2 o r = .inr (ci, F r)) (hi0 : 0 ≤ i) (hi : i < (n : Int)) (hn9 : n ≤ 2000000000) (kk : Z Γ ω (zup μ c i z) (pc + 1) L st) : Z Γ ω μ pc L (.ref (ω.2.2.2.1 o) :: .int (iZ i) :: .ref (ω.2.2.2.1 c) :: st) := by
  obtain ⟨p, l, e, R, s, m, args, below, meth, cq, hV, hH0, hnl, hx, hb, hml, hown, hts, hK, hr, hlk, hfr, hlo⟩ := h
  intro H locs ls hH hS hl
  have K := fun H locs hH hS => kk H locs ls hH hS hl
  rw [hV] at K ⊢
  refine va_astq hx hb hK.1 hH.1 hH.2 hS c.toNat t0 o.toNat ci (by rw [zws_at hcl.1 hcl.2, he]) ht (by rw [zws_at hcl2.1 hcl2.2, he2]) hci (iZ_in hi0 hi (by omega)) hdg (fun H1 locs1 hP hD hS1 => ?_)
  have e9 : (fun j : Nat => some (ω.2.2.2.1 (f (fun i' => if i' = i then z else μ c i') j))) = va_up (fun j : Nat => some (ω.2.2.2.1 (f (μ c) j))) i.toNat (some (ω.2.2.2.1 o)) := by
    funext j
    rw [hf]
    unfold va_up
    by_cases hj : (j : Int) = i
    · have : j = i.toNat := by omega
      rw [if_pos hj, if_pos this]
    · have : ¬ j = i.toNat := by omega
      rw [if_neg hj, if_neg this]
  rw [zws_set (μ' := zup μ c i z) hcl.1 hcl.2 (by rw [zup_c, he, e9, iZ_clamp hi0 (by omega)]) (fun c' hc' => zup_o hc')] at hP hD
  exact K H1 locs1 ⟨hP, hD⟩ hS1
/-- System.arraycopy of the first n ints of one array to another's beginning -/
theorem z_copy (h : zC Γ ω own cc nL fr lo rt post) {index : Nat} (hw : Cond.methodLink own index arraycopyName ∈ AL) (hdg : decode cc pc = .ok (.invokestatic index, 3)) {c0 c1 : Int} (hcl0 : 0 ≤ c0 ∧ c0 < (ω.2.2.1 : Int)) (hcl1 : 0 ≤ c1 ∧ c1 < (ω.2.2.1 : Int)) {n : Nat} (he0 : ∀ r, ω.2.2.2.2 c0 r = .inl (ω.2.1 0, n, .inl (fun j => iZ (r j)))) (he1 : ∀ r, ω.2.2.2.2 c1 r = .inl (ω.2.1 0, n, .inl (fun j => iZ (r j)))) (hn9 : n ≤ 2000000000) (hfr1 : 1 ≤ fr) (hlo1 : (st.map fun v => v.category).sum + (nativeFrameWords "java/lang/System" "arraycopy" 5 + 11) ≤ lo) (kk : Z Γ ω (fun c' i' => if c' = c1 ∧ 0 ≤ i' ∧ i' < (n : Int) then μ c0 i' else μ c' i') (pc + 3) L st) : Z Γ ω μ pc L (.int (iZ (n : Int)) :: .int (iZ 0) :: .ref (ω.2.2.2.1 c1) :: .int (iZ 0) :: .ref (ω.2.2.2.1 c0) :: st) := by
  obtain ⟨p, l, e, R, s, m, args, below, meth, cq, hV, hH0, hnl, hx, hb, hml, hown, hts, hK, hr, hlk, hfr, hlo⟩ := h
  intro H locs ls hH hS hl
  have K := fun H locs hH hS => kk H locs ls hH hS hl
  rw [hV] at K ⊢
  have z0 : (iZ 0).toNatClampNeg = 0 := rfl
  have zn : (iZ (n : Int)).toNatClampNeg = n := by rw [iZ_clamp (by omega) (by omega)]; omega
  refine va_copyi hx hb (by rw [hl.1, hnl, hml]) hown (hts _ hw) (hts _ qN_Sys_arraycopy) (hts _ qT_Sys_arraycopy) (hts _ qi_J10) hK.1 hH.1 hH.2 hS c0.toNat c1.toNat 0 0 (by rw [zws_at hcl0.1 hcl0.2, he0]) (by rw [zws_at hcl1.1 hcl1.2, he1]) rfl rfl rfl (by decide) (by decide) (nI_pos (by omega)) (by rw [z0, zn]; omega) (by rw [z0, zn]; omega) (fun _ _ => rfl) (Nat.le_trans hfr1 hfr) (Nat.le_trans hlo1 hlo) hdg (fun H1 locs1 hP hD hS1 => ?_)
  have e9 : (fun j : Nat => iZ ((fun i' => if c1 = c1 ∧ 0 ≤ i' ∧ i' < (n : Int) then μ c0 i' else μ c1 i') (j : Int))) = va_cpy (fun j : Nat => iZ (μ c0 j)) (fun j : Nat => iZ (μ c1 j)) (iZ 0).toNatClampNeg (iZ 0).toNatClampNeg (iZ (n : Int)).toNatClampNeg := by
    rw [z0, zn]
    funext j
    unfold va_cpy
    by_cases hj : j < n
    · have h1 : c1 = c1 ∧ 0 ≤ (j : Int) ∧ (j : Int) < (n : Int) := ⟨rfl, by omega, by omega⟩
      have h2 : 0 ≤ j ∧ j < 0 + n := by omega
      have h3 : 0 + (j - 0) = j := by omega
      simp only [h1, h2, h3, and_self, if_true]
    · have h1 : ¬ (c1 = c1 ∧ 0 ≤ (j : Int) ∧ (j : Int) < (n : Int)) := by omega
      have h2 : ¬ (0 ≤ j ∧ j < 0 + n) := by omega
      dsimp only
      rw [if_neg h1, if_neg h2]
  rw [zws_set (μ' := fun c' i' => if c' = c1 ∧ 0 ≤ i' ∧ i' < (n : Int) then μ c0 i' else μ c' i') hcl1.1 hcl1.2 (by rw [he1, e9]) (fun c' hc' => by funext i'; simp only [hc', false_and, if_false])] at hP hD
  exact K H1 locs1 ⟨hP, hD⟩ hS1
theorem z_max (h : zC Γ ω own cc nL fr lo rt post) {index : Nat} (hw : Cond.methodLink own index Lib.Math.max.name ∈ AL) {a b : Int} (hdg : decode cc pc = .ok (.invokestatic index, 3)) (ha : -2147483648 ≤ a ∧ a ≤ 2147483647) (hb1 : -2147483648 ≤ b ∧ b ≤ 2147483647) (hfr1 : 1 ≤ fr) (hlo1 : (st.map fun v => v.category).sum + 13 ≤ lo) (kk : Z Γ ω μ (pc + 3) L (.int (iZ (if a < b then b else a)) :: st)) : Z Γ ω μ pc L (.int (iZ b) :: .int (iZ a) :: st) := by
  obtain ⟨p, l, e, R, s, m, args, below, meth, cq, hV, hH0, hnl, hx, hb, hml, hown, hts, hK, hr, hlk, hfr, hlo⟩ := h
  intro H locs ls hH hS hl
  have K := kk H locs ls hH hS hl
  rw [hV] at K ⊢
  refine va_mmax hx hb (by rw [hl.1, hnl, hml]) hown (hts _ hw) (hts _ qT_J9_max_7cf53) (hts _ qi_J9) (hts _ qC_J9_max_7cf53) (Nat.le_trans hfr1 hfr) (Nat.le_trans hlo1 hlo) (Nat.zero_le _) (Nat.zero_le _) hdg ?_
  have e9 : (if iZ a < iZ b then iZ b else iZ a) = iZ (if a < b then b else a) := by
    by_cases q : a < b
    · rw [if_pos q, if_pos ((iZ_lt ha hb1).mpr q)]
    · rw [if_neg q, if_neg (fun z => q ((iZ_lt ha hb1).mp z))]
  rw [e9]
  exact K
theorem z_min (h : zC Γ ω own cc nL fr lo rt post) {index : Nat} (hw : Cond.methodLink own index Lib.Math.min.name ∈ AL) {a b : Int} (hdg : decode cc pc = .ok (.invokestatic index, 3)) (ha : -2147483648 ≤ a ∧ a ≤ 2147483647) (hb1 : -2147483648 ≤ b ∧ b ≤ 2147483647) (hfr1 : 1 ≤ fr) (hlo1 : (st.map fun v => v.category).sum + 13 ≤ lo) (kk : Z Γ ω μ (pc + 3) L (.int (iZ (if b < a then b else a)) :: st)) : Z Γ ω μ pc L (.int (iZ b) :: .int (iZ a) :: st) := by
  obtain ⟨p, l, e, R, s, m, args, below, meth, cq, hV, hH0, hnl, hx, hb, hml, hown, hts, hK, hr, hlk, hfr, hlo⟩ := h
  intro H locs ls hH hS hl
  have K := kk H locs ls hH hS hl
  rw [hV] at K ⊢
  refine va_mmin hx hb (by rw [hl.1, hnl, hml]) hown (hts _ hw) (hts _ qT_J9_min_7cf53) (hts _ qi_J9) (hts _ qC_J9_min_7cf53) (Nat.le_trans hfr1 hfr) (Nat.le_trans hlo1 hlo) (Nat.zero_le _) (Nat.zero_le _) hdg ?_
  have e9 : (if iZ b < iZ a then iZ b else iZ a) = iZ (if b < a then b else a) := by
    by_cases q : b < a
    · rw [if_pos q, if_pos ((iZ_lt hb1 ha).mpr q)]
    · rw [if_neg q, if_neg (fun z => q ((iZ_lt hb1 ha).mp z))]
  rw [e9]
  exact K
/-! ends -/
theorem z_iret (h : zC Γ ω own cc nL fr lo (some .int) post) {v : Int32} (hdg : decode cc pc = .ok (.ireturn, 1)) (hp : post (some (.int v)) μ) : Z Γ ω μ pc L [.int v] := by
  obtain ⟨p, l, e, R, s, m, args, below, meth, c, hV, hH0, hnl, hx, hb, hml, hown, hts, hK, hr, hlk, hfr, hlo⟩ := h
  intro H locs ls hH hS hl
  rw [hV]
  rw [hH0] at hS
  exact W.iret hx hb hr (fun t ht hW => ⟨⟨_, μ, rfl, hp, by rw [ht]; exact hH⟩, hS.F ht⟩) hS.2.2 hdg hlk
theorem z_zret (h : zC Γ ω own cc nL fr lo (some .boolean) post) {P : Prop} [Decidable P] (hdg : decode cc pc = .ok (.ireturn, 1)) (hp : post (some (.int (iZ (zB P)))) μ) : Z Γ ω μ pc L [.int (iZ (zB P))] := by
  obtain ⟨p, l, e, R, s, m, args, below, meth, c, hV, hH0, hnl, hx, hb, hml, hown, hts, hK, hr, hlk, hfr, hlo⟩ := h
  intro H locs ls hH hS hl
  rw [hV]
  rw [hH0] at hS
  exact W.zret hx hb hr (by by_cases z : P <;> simp [zB, z] <;> rfl) (fun t ht hW => ⟨⟨_, μ, rfl, hp, by rw [ht]; exact hH⟩, hS.F ht⟩) hS.2.2 hdg hlk
theorem z_zret1 (h : zC Γ ω own cc nL fr lo (some .boolean) post) (hdg : decode cc pc = .ok (.ireturn, 1)) (hp : post (some (.int (iZ 1))) μ) : Z Γ ω μ pc L [.int (iZ 1)] := z_zret (P := True) h hdg hp
theorem z_zret0 (h : zC Γ ω own cc nL fr lo (some .boolean) post) (hdg : decode cc pc = .ok (.ireturn, 1)) (hp : post (some (.int (iZ 0))) μ) : Z Γ ω μ pc L [.int (iZ 0)] := z_zret (P := False) h hdg hp
theorem z_cret (h : zC Γ ω own cc nL fr lo (some .char) post) {a : Int} (ha : 0 ≤ a ∧ a ≤ 65535) (hdg : decode cc pc = .ok (.ireturn, 1)) (hp : post (some (.int (iZ a))) μ) : Z Γ ω μ pc L [.int (iZ a)] := by
  obtain ⟨p, l, e, R, s, m, args, below, meth, c, hV, hH0, hnl, hx, hb, hml, hown, hts, hK, hr, hlk, hfr, hlo⟩ := h
  intro H locs ls hH hS hl
  rw [hV]
  rw [hH0] at hS
  obtain ⟨n, rfl⟩ := Int.eq_ofNat_of_zero_le ha.1
  exact W.zret hx hb hr (pk_charN (q := n) (by omega)).1 (fun t ht hW => ⟨⟨_, μ, rfl, hp, by rw [ht]; exact hH⟩, hS.F ht⟩) hS.2.2 hdg hlk
theorem z_vret (h : zC Γ ω own cc nL fr lo none post) (hdg : decode cc pc = .ok (.return_, 1)) (hp : post none μ) : Z Γ ω μ pc L [] := by
  obtain ⟨p, l, e, R, s, m, args, below, meth, c, hV, hH0, hnl, hx, hb, hml, hown, hts, hK, hr, hlk, hfr, hlo⟩ := h
  intro H locs ls hH hS hl
  rw [hV]
  rw [hH0] at hS
  exact W.vret hx hb hr (fun t ht hW => ⟨⟨_, μ, rfl, hp, by rw [ht]; exact hH⟩, hS.F ht⟩) hS.2.2 hdg hlk
theorem z_aret {C : String} (h : zC Γ ω own cc nL fr lo (some (.object C)) post) {a : Nat} (hdg : decode cc pc = .ok (.areturn, 1)) (hp : post (some (.ref a)) μ) : Z Γ ω μ pc L [.ref a] := by
  obtain ⟨p, l, e, R, s, m, args, below, meth, c, hV, hH0, hnl, hx, hb, hml, hown, hts, hK, hr, hlk, hfr, hlo⟩ := h
  intro H locs ls hH hS hl
  rw [hV]
  rw [hH0] at hS
  exact W.aret hx hb hr (Or.inl ⟨_, rfl⟩) (Or.inr ⟨_, rfl⟩) (fun t ht hW => ⟨⟨_, μ, rfl, hp, by rw [ht]; exact hH⟩, hS.F ht⟩) hS.2.2 hdg hlk
theorem z_lret (h : zC Γ ω own cc nL fr lo (some .long) post) {a : Int64} (hdg : decode cc pc = .ok (.lreturn, 1)) (hp : post (some (.long a)) μ) : Z Γ ω μ pc L [.long a] := by
  obtain ⟨p, l, e, R, s, m, args, below, meth, c, hV, hH0, hnl, hx, hb, hml, hown, hts, hK, hr, hlk, hfr, hlo⟩ := h
  intro H locs ls hH hS hl
  rw [hV]
  rw [hH0] at hS
  exact W.lret hx hb hr (fun t ht hW => ⟨⟨_, μ, rfl, hp, by rw [ht]; exact hH⟩, hS.F ht⟩) hS.2.2 hdg hlk
end ZR
/-! calls -/
section ZCALL
variable {p : Program} {l : Launch} {e : Env} {R : Room} {s : State} {m : MethodId} {args : Array Value} {below : List Frame} {meth : Method} {c : Code} {H : Heap} {locs : List Loc} {Q : State → Prop}
variable {pc : Nat} {ls : Array Slot} {rest st0 : List Value} {a : Array Value} {A : Nat → Prop} {H0 : Heap} {ω : zO} {post : Option Value → zM → Prop}
theorem zc_go (hr : va_Run p l e R s m args below meth c H locs 0 0 0 0 (F0 m pc ls st0) rest (zQ ω A post a) A) (hS : va_S A H0 H locs)
    (kk : ∀ (v : Option Value) (μ' : zM) (H1 : Heap) (locs1 : List Loc), post v μ' → zH ω A μ' H1 → va_S A H0 H1 locs1 → W p l e R s m args below meth c H1 locs1 0 0 Q (F0 m (pc + 3) ls (v.toList ++ rest))) : W p l e R s m args below meth c H locs 0 0 Q (F0 m pc ls st0) := by
  intro T hT X
  obtain ⟨v, st₀, t, T', L, h0, X', hL, e1, e2, ⟨⟨v', μ', hv, hp, hb⟩, hz, hk⟩, st⟩ := hr T hT X
  cases hv
  rw [h0] at hz hk
  obtain ⟨t2, a1, b1⟩ := kk v μ' T'.heap (locs ++ L) hp (by rw [e1]; exact hb)
    ⟨Nat.le_trans hS.1 (by rw [e1]; exact hz), fun q h1 h2 => by rw [e1, hk q (Nat.lt_of_lt_of_le h1 hS.1) h2]; exact hS.2.1 q h1 h2, fun q hq => by
      rcases List.mem_append.mp hq with h | h
      · exact hS.2.2 q h
      · exact hL q h⟩ T' rfl X'
  exact ⟨t2, st t2 a1, b1⟩
end ZCALL
section ZCR
variable {Γ : zG} {ω : zO} {own : String} {cc : ByteArray} {nL fr lo : Nat} {rt : Option FieldType} {post : Option Value → zM → Prop} {μ : zM} {pc : Nat} {L : List (Nat × Value)} {rest : List Value}
variable {y : MethodName} {bytes : ByteArray} {maxL fr1 lo1 index : Nat} {ret : Option FieldType} {post1 : Option Value → zM → Prop}
theorem zP_blind {A : Nat → Prop} {vs : List Value} : FrameBlind (va_Pc vs (zP ω A μ)) := fun a U g mk q => ⟨q.1, zK.same (u := U) (U := U.calling g mk a) rfl q.2.1, q.2.2⟩
/-- a virtual call of the cell o's method -/
theorem z_callV (h : zC Γ ω own cc nL fr lo rt post) {ci : Nat} {T : u_T} {N : Nat} {o : Int} (As : List Value) (nA : Nat) (hnA : As.length = nA) (hdg : decode cc pc = .ok (.invokevirtual index, 3)) (hM : ∀ l, zMet l ω Γ.2.2.1 y bytes maxL ret fr1 lo1 (.ref (ω.2.2.2.1 o) :: As) μ post1)
    (h1 : Cond.methodLink own index y ∈ AL) (h2 : Cond.instanceMethod y ∈ AL) (h3 : Cond.selects y.cls y y ∈ AL) (h4 : Cond.initialized y.cls ∈ AL) (h5 : Cond.code y bytes maxL ret ∈ AL) (hd : y.cls = y.cls ∧ y.cls ≠ "java/lang/invoke/MethodHandle" ∧ y.cls ≠ "java/lang/invoke/VarHandle" ∧ (parseMethodDescriptor y.desc).map (fun d => d.parameters.length) = some nA) (hfr1 : fr1 + 1 ≤ fr) (hlo1 : 8 + (maxL + 11) + lo1 ≤ lo)
    (hcl : 0 ≤ o ∧ o < (ω.2.2.1 : Int)) {F : (Int → Int) → List Value} (he : ∀ r, ω.2.2.2.2 o r = .inr (ci, F r)) (hc : zcl[ci]? = some (y.cls, T, N)) (hcat : (rest.map fun v => v.category).sum ≤ 8)
    (kk : ∀ (v : Option Value) (μ' : zM), post1 v μ' → Z Γ ω μ' (pc + 3) L (v.toList ++ rest)) {st : List Value} (hst : st = As.reverse ++ .ref (ω.2.2.2.1 o) :: rest) : Z Γ ω μ pc L st := by
  obtain ⟨p, l, e, R, s, m, args, below, meth, c, hV, hH0, hnl, hx, hb, hml, hown, hts, hK, hr, hlk, hfr, hlo⟩ := h
  intro H locs ls hH hS hl
  have K := fun v μ' H locs q hH hS => kk v μ' q H locs ls hH hS hl
  rw [hV] at K ⊢
  refine zc_go (va_runV (As := As) (rest := rest) ⟨hx, hb, hml, hown, hts⟩ (hM l) (cwV nA hts (al_gv h1 h2 h3 h4 h5) rfl rfl rfl hd ⟨Nat.le_trans hfr1 hfr, Nat.le_trans hlo1 hlo⟩) ⟨zP_blind, va_recv hK.1 hH.1 hc (by rw [zws_at hcl.1 hcl.2, he]), fun U hU hW => ⟨rfl, hK.warm hW, by rw [hU]; exact hH⟩⟩ rfl hnA (by show ls.size = _; rw [hl.1, hnl]) hst (lv_room hcat) hdg ⟨Nat.zero_le _, Nat.zero_le _⟩) hS (fun v μ' H1 locs1 q1 q2 q3 => K v μ' H1 locs1 q1 q2 q3)
/-- a static call within the class -/
theorem z_callS (h : zC Γ ω own cc nL fr lo rt post) (As : List Value) (nA : Nat) (hnA : As.length = nA) (hdg : decode cc pc = .ok (.invokestatic index, 3)) (hM : ∀ l, zMet l ω Γ.2.2.1 y bytes maxL ret fr1 lo1 As μ post1)
    (h1 : Cond.methodLink own index y ∈ AL) (h2 : Cond.static y ∈ AL) (h4 : Cond.initialized y.cls ∈ AL) (h5 : Cond.code y bytes maxL ret ∈ AL) (hd : y.cls ≠ "java/lang/invoke/MethodHandle" ∧ y.cls ≠ "java/lang/invoke/VarHandle" ∧ (parseMethodDescriptor y.desc).map (fun d => d.parameters.length) = some nA) (hfr1 : fr1 + 1 ≤ fr) (hlo1 : 8 + (maxL + 11) + lo1 ≤ lo)
    (hcat : (rest.map fun v => v.category).sum ≤ 8)
    (kk : ∀ (v : Option Value) (μ' : zM), post1 v μ' → Z Γ ω μ' (pc + 3) L (v.toList ++ rest)) {st : List Value} (hst : st = As.reverse ++ rest) : Z Γ ω μ pc L st := by
  obtain ⟨p, l, e, R, s, m, args, below, meth, c, hV, hH0, hnl, hx, hb, hml, hown, hts, hK, hr, hlk, hfr, hlo⟩ := h
  intro H locs ls hH hS hl
  have K := fun v μ' H locs q hH hS => kk v μ' q H locs ls hH hS hl
  rw [hV] at K ⊢
  refine zc_go (va_runS (As := As) (rest := rest) ⟨hx, hb, hml, hown, hts⟩ (hM l) (va_cwS nA hts (al_gs h1 h2 h4 h5) rfl rfl rfl hd ⟨Nat.le_trans hfr1 hfr, Nat.le_trans hlo1 hlo⟩) ⟨zP_blind, fun U hU hW => ⟨rfl, hK.warm hW, by rw [hU]; exact hH⟩⟩ rfl hnA (by show ls.size = _; rw [hl.1, hnl]) hst (lv_room hcat) hdg ⟨Nat.zero_le _, Nat.zero_le _⟩) hS (fun v μ' H1 locs1 q1 q2 q3 => K v μ' H1 locs1 q1 q2 q3)
/-- a static call of a private method of the nest's host -/
theorem z_callSN (h : zC Γ ω own cc nL fr lo rt post) (As : List Value) (nA : Nat) (hnA : As.length = nA) (hdg : decode cc pc = .ok (.invokestatic index, 3)) (hM : ∀ l, zMet l ω Γ.2.2.1 y bytes maxL ret fr1 lo1 As μ post1)
    (h1 : Cond.methodLinkNest own index y RX7 ∈ zNst) (h2 : Cond.static y ∈ AL) (h4 : Cond.initialized y.cls ∈ AL) (h5 : Cond.code y bytes maxL ret ∈ AL) (hd : y.cls ≠ "java/lang/invoke/MethodHandle" ∧ y.cls ≠ "java/lang/invoke/VarHandle" ∧ (parseMethodDescriptor y.desc).map (fun d => d.parameters.length) = some nA) (hfr1 : fr1 + 1 ≤ fr) (hlo1 : 8 + (maxL + 11) + lo1 ≤ lo)
    (hcat : (rest.map fun v => v.category).sum ≤ 8)
    (kk : ∀ (v : Option Value) (μ' : zM), post1 v μ' → Z Γ ω μ' (pc + 3) L (v.toList ++ rest)) {st : List Value} (hst : st = As.reverse ++ rest) : Z Γ ω μ pc L st := by
  obtain ⟨p, l, e, R, s, m, args, below, meth, c, hV, hH0, hnl, hx, hb, hml, hown, hts, hK, hr, hlk, hfr, hlo⟩ := h
  intro H locs ls hH hS hl
  have K := fun v μ' H locs q hH hS => kk v μ' q H locs ls hH hS hl
  rw [hV] at K ⊢
  refine zc_go (va_runSN (As := As) (rest := rest) ⟨hx, hb, hml, hown, hts⟩ (hM l) ⟨va_cnB nA hts (al_g h5) rfl rfl rfl (hK.2 _ h1) (hts _ h4) hd ⟨Nat.le_trans hfr1 hfr, Nat.le_trans hlo1 hlo⟩, hts _ h2, trivial⟩ ⟨zP_blind, fun U hU hW => ⟨rfl, hK.warm hW, by rw [hU]; exact hH⟩⟩ rfl hnA (by show ls.size = _; rw [hl.1, hnl]) hst (lv_room hcat) hdg ⟨Nat.zero_le _, Nat.zero_le _⟩) hS (fun v μ' H1 locs1 q1 q2 q3 => K v μ' H1 locs1 q1 q2 q3)
def zpI (r : Value) (P : zM → Prop) : Option Value → zM → Prop := fun v μ' => v = some r ∧ P μ'
def zpV (P : zM → Prop) : Option Value → zM → Prop := fun v μ' => v = none ∧ P μ'
theorem zk_pure {r : Value} (kk : Z Γ ω μ pc L (r :: rest)) : ∀ (v : Option Value) (μ' : zM), zpI r (fun m => m = μ) v μ' → Z Γ ω μ' pc L (v.toList ++ rest) := by
  intro v μ' h
  rw [h.1, h.2]
  exact kk
theorem zk_int {r : Value} {P : zM → Prop} (kk : ∀ μ', P μ' → Z Γ ω μ' pc L (r :: rest)) : ∀ (v : Option Value) (μ' : zM), zpI r P v μ' → Z Γ ω μ' pc L (v.toList ++ rest) := by
  intro v μ' h
  rw [h.1]
  exact kk μ' h.2
theorem zk_void {P : zM → Prop} (kk : ∀ μ', P μ' → Z Γ ω μ' pc L rest) : ∀ (v : Option Value) (μ' : zM), zpV P v μ' → Z Γ ω μ' pc L (v.toList ++ rest) := by
  intro v μ' h
  rw [h.1]
  exact kk μ' h.2
end ZCR
end
section
/-! THE CLASS'S CELLS: six desks of 26 cells each (0 the desk, 1 the trial, 2 to 5 the history's), then the object, its history, the states, its script, the characters, the numbers, its finding. -/
def ccd (ca : Nat → ClassId) (ad : Int → Nat) (c : Int) (r : Int → Int) : va_E :=
  if c < 156 then
    if c % 26 = 0 then .inr (2, [.ref (ad (c + 1)), .ref (ad (c + 2)), .ref (ad (c + 3)), .ref (ad (c + 4)), .int (iZ (r 4)), .int (iZ (r 5)), .int (iZ (r 6)), .int (iZ (r 7)), .ref (ad (c + 5)), .int (iZ (r 9)), .int (iZ (r 10)), .int (iZ (r 11))])
    else if c % 26 = 1 then .inl (ca 0, 8, .inl (fun j => iZ (r j)))
    else if c % 26 = 2 then .inl (ca 0, 8, .inl (fun j => iZ (r j)))
    else if c % 26 = 3 then .inl (ca 2, 5, .inr (.inr (.inr (.inr (fun j => some (ad (c + 3 + (j : Int))))))))
    else if c % 26 = 4 then .inl (ca 3, 10, .inr (.inr (.inr (.inr (fun j => some (ad (c + 12 + (j : Int))))))))
    else if c % 26 = 5 then .inr (1, [.int (iZ (r 0)), .int (iZ (r 1)), .int (iZ (r 2)), .int (iZ (r 3)), .int (iZ (r 4)), .int (iZ (r 5)), .int (iZ (r 6)), .int (iZ (r 7))])
    else if c % 26 < 11 then .inr (6, [.int (iZ (r 0)), .int (iZ (r 1)), .int (iZ (r 2)), .int (iZ (r 3)), .int (iZ (r 4)), .int (iZ (r 5)), .int (iZ (r 6)), .ref (ad (c + 5))])
    else if c % 26 < 16 then .inl (ca 0, 10, .inl (fun j => iZ (r j)))
    else .inr (0, [.int (iZ (r 0)), .int (iZ (r 1)), .int (iZ (r 2)), .int (iZ (r 3)), .int (iZ (r 4)), .int (iZ (r 5)), .int (iZ (r 6)), .int (iZ (r 7))])
  else if c = 156 then .inr (7, [.ref (ad 0), .ref (ad 26), .ref (ad 157), .ref (ad 159), .ref (ad 162)])
  else if c = 157 then .inr (4, [.ref (ad 158), .int (iZ (r 1))])
  else if c = 158 then .inl (ca 4, 4, .inr (.inr (.inr (.inr (fun j => some (ad (26 * r (j : Int))))))))
  else if c = 159 then .inr (5, [.ref (ad 160), .int (iZ (r 1)), .int (iZ (r 2)), .ref (ad 161), .int (iZ (r 4))])
  else if c = 160 then .inl (ca 1, 60, .inl (fun j => iZ (r j)))
  else if c = 161 then .inl (ca 0, 6, .inl (fun j => iZ (r j)))
  else .inr (3, [.int (iZ (r 0)), .int (iZ (r 1)), .int (iZ (r 2)), .int (iZ (r 3))])
abbrev cω (G : va_G) (ca : Nat → ClassId) (ad : Int → Nat) : zO := (G, ca, 163, ad, ccd ca ad)
/-- the first cell of a desk -/
def zb (b : Int) : Prop := ∃ j : Int, 0 ≤ j ∧ j ≤ 5 ∧ b = 26 * j
theorem zb_0 : zb 0 := ⟨0, by omega⟩
theorem zb_26 : zb 26 := ⟨1, by omega⟩
section CW
variable {ca : Nat → ClassId} {ad : Int → Nat} {b k : Int}
theorem cl_desk (hb : zb b) : 0 ≤ b ∧ b < ((163 : Nat) : Int) := by obtain ⟨j, h1, h2, rfl⟩ := hb; omega
theorem cd_desk (hb : zb b) : ∀ r, ccd ca ad b r = .inr (2, [.ref (ad (b + 1)), .ref (ad (b + 2)), .ref (ad (b + 3)), .ref (ad (b + 4)), .int (iZ (r 4)), .int (iZ (r 5)), .int (iZ (r 6)), .int (iZ (r 7)), .ref (ad (b + 5)), .int (iZ (r 9)), .int (iZ (r 10)), .int (iZ (r 11))]) := by
  obtain ⟨j, h1, h2, rfl⟩ := hb
  intro r
  unfold ccd
  rw [if_pos (by omega), if_pos (by omega)]
theorem cl_x (hb : zb b) : 0 ≤ b + 1 ∧ b + 1 < ((163 : Nat) : Int) := by obtain ⟨j, h1, h2, rfl⟩ := hb; omega
theorem cd_x (hb : zb b) : ∀ r, ccd ca ad (b + 1) r = .inl (ca 0, 8, .inl (fun j => iZ (r j))) := by
  obtain ⟨j, h1, h2, rfl⟩ := hb
  intro r
  unfold ccd
  rw [if_pos (by omega), if_neg (by omega), if_pos (by omega)]
theorem cl_y (hb : zb b) : 0 ≤ b + 2 ∧ b + 2 < ((163 : Nat) : Int) := by obtain ⟨j, h1, h2, rfl⟩ := hb; omega
theorem cd_y (hb : zb b) : ∀ r, ccd ca ad (b + 2) r = .inl (ca 0, 8, .inl (fun j => iZ (r j))) := by
  obtain ⟨j, h1, h2, rfl⟩ := hb
  intro r
  unfold ccd
  rw [if_pos (by omega), if_neg (by omega), if_neg (by omega), if_pos (by omega)]
theorem cl_ships (hb : zb b) : 0 ≤ b + 3 ∧ b + 3 < ((163 : Nat) : Int) := by obtain ⟨j, h1, h2, rfl⟩ := hb; omega
theorem cd_ships (hb : zb b) : ∀ r, ccd ca ad (b + 3) r = .inl (ca 2, 5, .inr (.inr (.inr (.inr (fun j => some (ad (b + 6 + (j : Int)))))))) := by
  obtain ⟨j, h1, h2, rfl⟩ := hb
  intro r
  unfold ccd
  rw [if_pos (by omega), if_neg (by omega), if_neg (by omega), if_neg (by omega), if_pos (by omega), show 26 * j + 3 + 3 = 26 * j + 6 by omega]
theorem cl_cargoes (hb : zb b) : 0 ≤ b + 4 ∧ b + 4 < ((163 : Nat) : Int) := by obtain ⟨j, h1, h2, rfl⟩ := hb; omega
theorem cd_cargoes (hb : zb b) : ∀ r, ccd ca ad (b + 4) r = .inl (ca 3, 10, .inr (.inr (.inr (.inr (fun j => some (ad (b + 16 + (j : Int)))))))) := by
  obtain ⟨j, h1, h2, rfl⟩ := hb
  intro r
  unfold ccd
  rw [if_pos (by omega), if_neg (by omega), if_neg (by omega), if_neg (by omega), if_neg (by omega), if_pos (by omega), show 26 * j + 4 + 12 = 26 * j + 16 by omega]
theorem cl_course (hb : zb b) : 0 ≤ b + 5 ∧ b + 5 < ((163 : Nat) : Int) := by obtain ⟨j, h1, h2, rfl⟩ := hb; omega
theorem cd_course (hb : zb b) : ∀ r, ccd ca ad (b + 5) r = .inr (1, [.int (iZ (r 0)), .int (iZ (r 1)), .int (iZ (r 2)), .int (iZ (r 3)), .int (iZ (r 4)), .int (iZ (r 5)), .int (iZ (r 6)), .int (iZ (r 7))]) := by
  obtain ⟨j, h1, h2, rfl⟩ := hb
  intro r
  unfold ccd
  rw [if_pos (by omega), if_neg (by omega), if_neg (by omega), if_neg (by omega), if_neg (by omega), if_neg (by omega), if_pos (by omega)]
theorem cl_ship (hb : zb b) (hk : 0 ≤ k ∧ k < 5) : 0 ≤ b + 6 + k ∧ b + 6 + k < ((163 : Nat) : Int) := by obtain ⟨j, h1, h2, rfl⟩ := hb; omega
theorem cd_ship (hb : zb b) (hk : 0 ≤ k ∧ k < 5) : ∀ r, ccd ca ad (b + 6 + k) r = .inr (6, [.int (iZ (r 0)), .int (iZ (r 1)), .int (iZ (r 2)), .int (iZ (r 3)), .int (iZ (r 4)), .int (iZ (r 5)), .int (iZ (r 6)), .ref (ad (b + 11 + k))]) := by
  obtain ⟨j, h1, h2, rfl⟩ := hb
  intro r
  unfold ccd
  rw [if_pos (by omega), if_neg (by omega), if_neg (by omega), if_neg (by omega), if_neg (by omega), if_neg (by omega), if_neg (by omega), if_pos (by omega), show 26 * j + 6 + k + 5 = 26 * j + 11 + k by omega]
theorem cl_fx (hb : zb b) (hk : 0 ≤ k ∧ k < 5) : 0 ≤ b + 11 + k ∧ b + 11 + k < ((163 : Nat) : Int) := by obtain ⟨j, h1, h2, rfl⟩ := hb; omega
theorem cd_fx (hb : zb b) (hk : 0 ≤ k ∧ k < 5) : ∀ r, ccd ca ad (b + 11 + k) r = .inl (ca 0, 10, .inl (fun j => iZ (r j))) := by
  obtain ⟨j, h1, h2, rfl⟩ := hb
  intro r
  unfold ccd
  rw [if_pos (by omega), if_neg (by omega), if_neg (by omega), if_neg (by omega), if_neg (by omega), if_neg (by omega), if_neg (by omega), if_neg (by omega), if_pos (by omega)]
theorem cl_cargo (hb : zb b) (hk : 0 ≤ k ∧ k < 10) : 0 ≤ b + 16 + k ∧ b + 16 + k < ((163 : Nat) : Int) := by obtain ⟨j, h1, h2, rfl⟩ := hb; omega
theorem cd_cargo (hb : zb b) (hk : 0 ≤ k ∧ k < 10) : ∀ r, ccd ca ad (b + 16 + k) r = .inr (0, [.int (iZ (r 0)), .int (iZ (r 1)), .int (iZ (r 2)), .int (iZ (r 3)), .int (iZ (r 4)), .int (iZ (r 5)), .int (iZ (r 6)), .int (iZ (r 7))]) := by
  obtain ⟨j, h1, h2, rfl⟩ := hb
  intro r
  unfold ccd
  rw [if_pos (by omega), if_neg (by omega), if_neg (by omega), if_neg (by omega), if_neg (by omega), if_neg (by omega), if_neg (by omega), if_neg (by omega), if_neg (by omega)]
theorem cl_main : 0 ≤ (156 : Int) ∧ (156 : Int) < ((163 : Nat) : Int) := by omega
theorem cd_main : ∀ r, ccd ca ad 156 r = .inr (7, [.ref (ad 0), .ref (ad 26), .ref (ad 157), .ref (ad 159), .ref (ad 162)]) := fun _ => rfl
theorem cl_hist : 0 ≤ (157 : Int) ∧ (157 : Int) < ((163 : Nat) : Int) := by omega
theorem cd_hist : ∀ r, ccd ca ad 157 r = .inr (4, [.ref (ad 158), .int (iZ (r 1))]) := fun _ => rfl
theorem cl_states : 0 ≤ (158 : Int) ∧ (158 : Int) < ((163 : Nat) : Int) := by omega
theorem cd_states : ∀ r, ccd ca ad 158 r = .inl (ca 4, 4, .inr (.inr (.inr (.inr (fun j => some (ad (26 * r (j : Int)))))))) := fun _ => rfl
theorem cl_script : 0 ≤ (159 : Int) ∧ (159 : Int) < ((163 : Nat) : Int) := by omega
theorem cd_script : ∀ r, ccd ca ad 159 r = .inr (5, [.ref (ad 160), .int (iZ (r 1)), .int (iZ (r 2)), .ref (ad 161), .int (iZ (r 4))]) := fun _ => rfl
theorem cl_chars : 0 ≤ (160 : Int) ∧ (160 : Int) < ((163 : Nat) : Int) := by omega
theorem cd_chars : ∀ r, ccd ca ad 160 r = .inl (ca 1, 60, .inl (fun j => iZ (r j))) := fun _ => rfl
theorem cl_nums : 0 ≤ (161 : Int) ∧ (161 : Int) < ((163 : Nat) : Int) := by omega
theorem cd_nums : ∀ r, ccd ca ad 161 r = .inl (ca 0, 6, .inl (fun j => iZ (r j))) := fun _ => rfl
theorem cl_find : 0 ≤ (162 : Int) ∧ (162 : Int) < ((163 : Nat) : Int) := by omega
theorem cd_find : ∀ r, ccd ca ad 162 r = .inr (3, [.int (iZ (r 0)), .int (iZ (r 1)), .int (iZ (r 2)), .int (iZ (r 3))]) := fun _ => rfl
end CW
/-! WHAT A DESK IS: the cells' ints that count, all else 0 (0: 4 ships 5 cargoes 6 cancelled 7 called off; 1, 2: x, y; 6..: ships; 11..: their fixtures; 16..: cargoes) -/
def zrel (o i : Int) : Prop := (o = 0 ∧ 4 ≤ i ∧ i < 8) ∨ (1 ≤ o ∧ o ≤ 2 ∧ 0 ≤ i ∧ i < 8) ∨ (6 ≤ o ∧ o < 11 ∧ 0 ≤ i ∧ i < 7) ∨ (11 ≤ o ∧ o < 16 ∧ 0 ≤ i ∧ i < 10) ∨ (16 ≤ o ∧ o < 26 ∧ 0 ≤ i ∧ i < 8)
def vw (μ : zM) (b : Int) : zM := fun o i => if (o = 0 ∧ 4 ≤ i ∧ i < 8) ∨ (1 ≤ o ∧ o ≤ 2 ∧ 0 ≤ i ∧ i < 8) ∨ (6 ≤ o ∧ o < 11 ∧ 0 ≤ i ∧ i < 7) ∨ (11 ≤ o ∧ o < 16 ∧ 0 ≤ i ∧ i < 10) ∨ (16 ≤ o ∧ o < 26 ∧ 0 ≤ i ∧ i < 8) then μ (b + o) i else 0
theorem vw_in {μ : zM} {b o i : Int} (h : zrel o i) : vw μ b o i = μ (b + o) i := if_pos h
theorem vw_out {μ : zM} {b o i : Int} (h : ¬ zrel o i) : vw μ b o i = 0 := if_neg h
theorem vw_S {μ : zM} {b : Int} : vw μ b 0 4 = μ b 4 := by rw [vw_in (by unfold zrel; omega), Int.add_zero]
theorem vw_Cn {μ : zM} {b : Int} : vw μ b 0 5 = μ b 5 := by rw [vw_in (by unfold zrel; omega), Int.add_zero]
theorem vw_can {μ : zM} {b : Int} : vw μ b 0 6 = μ b 6 := by rw [vw_in (by unfold zrel; omega), Int.add_zero]
theorem vw_off {μ : zM} {b : Int} : vw μ b 0 7 = μ b 7 := by rw [vw_in (by unfold zrel; omega), Int.add_zero]
theorem vw_x {μ : zM} {b i : Int} (h : 0 ≤ i ∧ i < 8) : vw μ b 1 i = μ (b + 1) i := vw_in (by unfold zrel; omega)
theorem vw_y {μ : zM} {b i : Int} (h : 0 ≤ i ∧ i < 8) : vw μ b 2 i = μ (b + 2) i := vw_in (by unfold zrel; omega)
theorem vw_ship {μ : zM} {b k i : Int} (hk : 0 ≤ k ∧ k < 5) (h : 0 ≤ i ∧ i < 7) : vw μ b (6 + k) i = μ (b + 6 + k) i := by rw [vw_in (by unfold zrel; omega), Int.add_assoc]
theorem vw_fx {μ : zM} {b k i : Int} (hk : 0 ≤ k ∧ k < 5) (h : 0 ≤ i ∧ i < 10) : vw μ b (11 + k) i = μ (b + 11 + k) i := by rw [vw_in (by unfold zrel; omega), Int.add_assoc]
theorem vw_cargo {μ : zM} {b k i : Int} (hk : 0 ≤ k ∧ k < 10) (h : 0 ≤ i ∧ i < 8) : vw μ b (16 + k) i = μ (b + 16 + k) i := by rw [vw_in (by unfold zrel; omega), Int.add_assoc]
theorem vw_up {μ : zM} {b o i z : Int} (h : zrel o i) : vw (zup μ (b + o) i z) b = zup (vw μ b) o i z := by
  funext o' i'
  by_cases h' : zrel o' i'
  · rw [vw_in h']
    by_cases e : o' = o ∧ i' = i
    · rw [e.1, e.2, zup_s, zup_s]
    · rw [zup_n (by omega), zup_n (by omega), vw_in h']
  · rw [vw_out h', zup_n (by
      by_cases e : o' = o
      · right
        intro e2
        rw [e, e2] at h'
        exact h' h
      · exact Or.inl e), vw_out h']
theorem vw_eq {μ μ' : zM} {b b' : Int} (h : ∀ o i, zrel o i → μ' (b' + o) i = μ (b + o) i) : vw μ' b' = vw μ b := by
  funext o i
  by_cases h' : zrel o i
  · rw [vw_in h', vw_in h', h o i h']
  · rw [vw_out h', vw_out h']
end
section
/-! THE NUMBERS: d is a desk (0: 4 ships, 5 cargoes, 6 cancelled, 7 called off; 1, 2: x, y; 6 + k: a ship; 11 + k: its fixtures; 16 + c: a cargo) -/
def zabs (x : Int) : Int := if x < 0 then -x else x
def sFar (d : zM) (p q : Int) : Int := 10 * (zabs (d 1 p - d 1 q) + zabs (d 2 p - d 2 q))
def sSail (d : zM) (k p q : Int) : Int := (sFar d p q + 24 * d (6 + k) 1 - 1) / (24 * d (6 + k) 1)
def sArr (d : zM) (k c p t : Int) : Int := t + sSail d k p (d (16 + c) 1)
def sLoad (d : zM) (k c p t : Int) : Int := if sArr d k c p t < d (16 + c) 3 then d (16 + c) 3 else sArr d k c p t
def sFree (d : zM) (k c p t : Int) : Int := sLoad d k c p t + 2 + sSail d k (d (16 + c) 1) (d (16 + c) 2) + 2
def sEarn (d : zM) (k c p t : Int) : Int := d (16 + c) 0 * d (16 + c) 5 - (sFree d k c p t - t) * d (6 + k) 2
def sMarg (d : zM) (k c p t : Int) : Int := d (16 + c) 4 - sArr d k c p t
/-- port, day and sum of earnings behind the first n fixtures of ship k -/
def sPos (d : zM) (k : Int) : Nat → Int × Int × Int
  | 0 => (d (6 + k) 3, d (6 + k) 4, 0)
  | n + 1 => (d (16 + d (11 + k) (n : Int)) 2, sFree d k (d (11 + k) (n : Int)) (sPos d k n).1 (sPos d k n).2.1, (sPos d k n).2.2 + sEarn d k (d (11 + k) (n : Int)) (sPos d k n).1 (sPos d k n).2.1)
/-! bounds -/
def bP (d : zM) : Prop := ∀ p, 0 ≤ p ∧ p ≤ 7 → (0 ≤ d 1 p ∧ d 1 p ≤ 99) ∧ (0 ≤ d 2 p ∧ d 2 p ≤ 99)
def bN (d : zM) : Prop := (0 ≤ d 0 4 ∧ d 0 4 ≤ 5) ∧ (0 ≤ d 0 5 ∧ d 0 5 ≤ 10)
def bS (d : zM) (k : Int) : Prop := (1 ≤ d (6 + k) 0 ∧ d (6 + k) 0 ≤ 99) ∧ (1 ≤ d (6 + k) 1 ∧ d (6 + k) 1 ≤ 20) ∧ (1 ≤ d (6 + k) 2 ∧ d (6 + k) 2 ≤ 99) ∧ (0 ≤ d (6 + k) 3 ∧ d (6 + k) 3 ≤ 7) ∧ (0 ≤ d (6 + k) 4 ∧ d (6 + k) 4 ≤ 1999) ∧ (0 ≤ d (6 + k) 6 ∧ d (6 + k) 6 ≤ 10)
def bC (d : zM) (c : Int) : Prop := (1 ≤ d (16 + c) 0 ∧ d (16 + c) 0 ≤ 99) ∧ (0 ≤ d (16 + c) 1 ∧ d (16 + c) 1 ≤ 7) ∧ (0 ≤ d (16 + c) 2 ∧ d (16 + c) 2 ≤ 7) ∧ (0 ≤ d (16 + c) 3 ∧ d (16 + c) 3 ≤ 999) ∧ (0 ≤ d (16 + c) 4 ∧ d (16 + c) 4 ≤ 999) ∧ (1 ≤ d (16 + c) 5 ∧ d (16 + c) 5 ≤ 99) ∧ (0 ≤ d (16 + c) 6 ∧ d (16 + c) 6 ≤ 2)
/-- ports, counts, ships and cargoes in their ranges -/
def bD (d : zM) : Prop := bN d ∧ bP d ∧ (∀ k, 0 ≤ k ∧ k < d 0 4 → bS d k) ∧ (∀ c, 0 ≤ c ∧ c < d 0 5 → bC d c)
theorem zabs_b {x : Int} (h : -99 ≤ x ∧ x ≤ 99) : 0 ≤ zabs x ∧ zabs x ≤ 99 := by unfold zabs; split <;> omega
theorem zabs_s (x y : Int) : zabs (x - y) = zabs (y - x) := by unfold zabs; split <;> split <;> omega
theorem sFar_b {d : zM} {p q : Int} (hP : bP d) (hp : 0 ≤ p ∧ p ≤ 7) (hq : 0 ≤ q ∧ q ≤ 7) : 0 ≤ sFar d p q ∧ sFar d p q ≤ 1980 := by
  have h1 := hP p hp
  have h2 := hP q hq
  have h3 := zabs_b (x := d 1 p - d 1 q) (by omega)
  have h4 := zabs_b (x := d 2 p - d 2 q) (by omega)
  unfold sFar
  omega
theorem sSail_b {d : zM} {k p q : Int} (hP : bP d) (hp : 0 ≤ p ∧ p ≤ 7) (hq : 0 ≤ q ∧ q ≤ 7) (hs : 1 ≤ d (6 + k) 1 ∧ d (6 + k) 1 ≤ 20) : 0 ≤ sSail d k p q ∧ sSail d k p q ≤ 83 := by
  have h1 := sFar_b hP hp hq
  unfold sSail
  refine ⟨Int.ediv_nonneg (by omega) (by omega), ?_⟩
  have h2 : (sFar d p q + 24 * d (6 + k) 1 - 1) / (24 * d (6 + k) 1) < 84 := Int.ediv_lt_of_lt_mul (by omega) (by omega)
  omega
theorem vw_c5 {μ : zM} {b i z : Int} : vw (zup μ (b + 5) i z) b = vw μ b := vw_eq (fun o i' h => zup_n (by unfold zrel at h; omega))
theorem vw_fr5 {μ μ' : zM} {b : Int} (h : ∀ c, c ≠ b + 5 → μ' c = μ c) : vw μ' b = vw μ b := vw_eq (fun o i' h' => by rw [h _ (by unfold zrel at h'; omega)])
/-- only the course of the desk b has changed; its eight numbers -/
def zCo (μ : zM) (b : Int) (μ' : zM) (p t a l dy en et mg : Int) : Prop := (∀ c, c ≠ b + 5 → μ' c = μ c) ∧ μ' (b + 5) 0 = p ∧ μ' (b + 5) 1 = t ∧ μ' (b + 5) 2 = a ∧ μ' (b + 5) 3 = l ∧ μ' (b + 5) 4 = dy ∧ μ' (b + 5) 5 = en ∧ μ' (b + 5) 6 = et ∧ μ' (b + 5) 7 = mg
theorem vw_far {μ : zM} {b c i z : Int} (h : c < b ∨ b + 26 ≤ c) : vw (zup μ c i z) b = vw μ b := vw_eq (fun o i' h' => zup_n (by unfold zrel at h'; omega))
theorem vw_ch {μ : zM} {b i z : Int} (h : 9 ≤ i) : vw (zup μ b i z) b = vw μ b := vw_eq (fun o i' h' => zup_n (by unfold zrel at h'; omega))
theorem vw_up0 {μ : zM} {b i z : Int} (h : zrel 0 i) : vw (zup μ b i z) b = zup (vw μ b) 0 i z := by
  have := vw_up (μ := μ) (b := b) (z := z) h
  rwa [Int.add_zero] at this
theorem vw_upk {μ : zM} {b o k i z : Int} (h : zrel (o + k) i) : vw (zup μ (b + o + k) i z) b = zup (vw μ b) (o + k) i z := by
  rw [Int.add_assoc]
  exact vw_up h
/-- what the course says of the voyage with cargo c from port p on day t -/
def zVoy (d : zM) (b k c p t : Int) (μ1 : zM) : Prop := μ1 (b + 5) 2 = sArr d k c p t ∧ μ1 (b + 5) 3 = sLoad d k c p t ∧ μ1 (b + 5) 4 = sFree d k c p t - t ∧ μ1 (b + 5) 5 = sEarn d k c p t ∧ μ1 (b + 5) 7 = sMarg d k c p t
/-- the course has followed ship k through its first n fixtures -/
def zFo (d : zM) (b k : Int) (n : Nat) (μ μ1 : zM) : Prop := (∀ c, c ≠ b + 5 → μ1 c = μ c) ∧ μ1 (b + 5) 0 = (sPos d k n).1 ∧ μ1 (b + 5) 1 = (sPos d k n).2.1 ∧ μ1 (b + 5) 6 = (sPos d k n).2.2 ∧ ∀ m : Nat, n = m + 1 → zVoy d b k (d (11 + k) (m : Int)) (sPos d k m).1 (sPos d k m).2.1 μ1
/-- ship k can be followed through its first N fixtures -/
def zGo (d : zM) (k : Int) (N : Nat) : Prop := (∀ n : Nat, n < N → 0 ≤ d (11 + k) (n : Int) ∧ d (11 + k) (n : Int) < d 0 5) ∧ ∀ n : Nat, n ≤ N → (0 ≤ (sPos d k n).1 ∧ (sPos d k n).1 ≤ 7) ∧ (0 ≤ (sPos d k n).2.1 ∧ (sPos d k n).2.1 ≤ 2000)
/-- how many fixtures ship k has -/
def sNum (d : zM) (k : Int) : Nat := (d (6 + k) 6).toNat
/-- where ship k is free behind all its fixtures, from which day on, and what it earns -/
def sEnd (d : zM) (k : Int) : Int × Int × Int := sPos d k (sNum d k)
def sCould (d : zM) (k c : Int) : Int := if d (6 + k) 0 < d (16 + c) 0 then 1 else if sMarg d k c (sEnd d k).1 (sEnd d k).2.1 < 0 then 2 else 0
theorem zFo_s {d : zM} {b k : Int} {n : Nat} {μ μ1 μ2 : zM} (hI : zFo d b k n μ μ1) (h : zCo μ1 b μ2 (d (16 + d (11 + k) (n : Int)) 2) (sFree d k (d (11 + k) (n : Int)) (sPos d k n).1 (sPos d k n).2.1) (sArr d k (d (11 + k) (n : Int)) (sPos d k n).1 (sPos d k n).2.1) (sLoad d k (d (11 + k) (n : Int)) (sPos d k n).1 (sPos d k n).2.1) (sFree d k (d (11 + k) (n : Int)) (sPos d k n).1 (sPos d k n).2.1 - (sPos d k n).2.1) (sEarn d k (d (11 + k) (n : Int)) (sPos d k n).1 (sPos d k n).2.1) ((sPos d k n).2.2 + sEarn d k (d (11 + k) (n : Int)) (sPos d k n).1 (sPos d k n).2.1) (sMarg d k (d (11 + k) (n : Int)) (sPos d k n).1 (sPos d k n).2.1)) : zFo d b k (n + 1) μ μ2 := by
  obtain ⟨h0, h1, h2, h3, h4, h5, h6, h7, h8⟩ := h
  refine ⟨fun c hc => (h0 c hc).trans (hI.1 c hc), h1, h2, h7, fun m hm => ?_⟩
  have e : m = n := by omega
  subst e
  exact ⟨h3, h4, h5, h6, h8⟩
theorem sNum_e {d : zM} {k : Int} (h : 0 ≤ d (6 + k) 6) : ((sNum d k : Nat) : Int) = d (6 + k) 6 := Int.toNat_of_nonneg h
/-- how many of the first cargoes are in a state -/
def sCnt (d : zM) (st : Int) : Nat → Int
  | 0 => 0
  | n + 1 => sCnt d st n + (if d (16 + (n : Int)) 6 = st then 1 else 0)
theorem sCnt_b (d : zM) (st : Int) (n : Nat) : 0 ≤ sCnt d st n ∧ sCnt d st n ≤ (n : Int) := by
  induction n with
  | zero => exact ⟨Int.le_refl _, Int.le_refl _⟩
  | succ n ih =>
    unfold sCnt
    split <;> omega
/-- the accounts of the first ships together -/
def sAcc (d : zM) : Nat → Int
  | 0 => 0
  | n + 1 => sAcc d n + d (6 + (n : Int)) 5
/-- the first of the r fixtures from n on that is too late; n + r if none is -/
def sTime (d : zM) (k : Int) : Nat → Nat → Nat
  | 0, n => n
  | r + 1, n => if sMarg d k (d (11 + k) (n : Int)) (sPos d k n).1 (sPos d k n).2.1 < 0 then n else sTime d k r (n + 1)
def sInT (d : zM) (k : Int) : Nat := sTime d k (sNum d k) 0
theorem sTime_b (d : zM) (k : Int) : ∀ r n, n ≤ sTime d k r n ∧ sTime d k r n ≤ n + r := by
  intro r
  induction r with
  | zero => intro n; exact ⟨Nat.le_refl _, Nat.le_refl _⟩
  | succ r ih =>
    intro n
    unfold sTime
    have := ih (n + 1)
    split <;> omega
theorem sArr_b {d : zM} {k c p t : Int} (hP : bP d) (hs : 1 ≤ d (6 + k) 1 ∧ d (6 + k) 1 ≤ 20) (hc : bC d c) (hp : 0 ≤ p ∧ p ≤ 7) : t ≤ sArr d k c p t ∧ sArr d k c p t ≤ t + 83 := by
  have := sSail_b hP hp hc.2.1 hs
  unfold sArr
  omega
theorem sLoad_b {d : zM} {k c p t : Int} (hP : bP d) (hs : 1 ≤ d (6 + k) 1 ∧ d (6 + k) 1 ≤ 20) (hc : bC d c) (hp : 0 ≤ p ∧ p ≤ 7) : sArr d k c p t ≤ sLoad d k c p t ∧ (sLoad d k c p t ≤ 999 ∨ sLoad d k c p t = sArr d k c p t) := by
  have := sArr_b (t := t) hP hs hc hp
  have h4 := hc.2.2.2.1
  unfold sLoad
  split <;> omega
theorem sFree_b {d : zM} {k c p t : Int} (hP : bP d) (hs : 1 ≤ d (6 + k) 1 ∧ d (6 + k) 1 ≤ 20) (hc : bC d c) (hp : 0 ≤ p ∧ p ≤ 7) : sLoad d k c p t + 4 ≤ sFree d k c p t ∧ sFree d k c p t ≤ sLoad d k c p t + 87 := by
  have := sSail_b hP hc.2.1 hc.2.2.1 hs
  unfold sFree
  omega
/-- a position behind fixtures that are in time -/
theorem sPos_b {d : zM} {k : Int} (hB : bD d) (hk : 0 ≤ k ∧ k < d 0 4) : ∀ n : Nat, (∀ m : Nat, m < n → 0 ≤ d (11 + k) (m : Int) ∧ d (11 + k) (m : Int) < d 0 5) → (∀ m : Nat, m < n → 0 ≤ sMarg d k (d (11 + k) (m : Int)) (sPos d k m).1 (sPos d k m).2.1) → (0 ≤ (sPos d k n).1 ∧ (sPos d k n).1 ≤ 7) ∧ (0 ≤ (sPos d k n).2.1 ∧ (sPos d k n).2.1 ≤ 1999) := by
  intro n
  obtain ⟨hN, hP, hS, hC⟩ := hB
  have hs := hS k hk
  induction n with
  | zero => intro _ _; exact ⟨hs.2.2.2.1, hs.2.2.2.2.1⟩
  | succ n ih =>
    intro h1 h2
    have i1 := ih (fun m hm => h1 m (by omega)) (fun m hm => h2 m (by omega))
    have hc := hC _ (h1 n (by omega))
    have h3 := h2 n (by omega)
    have e1 := sArr_b (t := (sPos d k n).2.1) hP hs.2.1 hc i1.1
    have e2 := sLoad_b (t := (sPos d k n).2.1) hP hs.2.1 hc i1.1
    have e3 := sFree_b (t := (sPos d k n).2.1) hP hs.2.1 hc i1.1
    refine ⟨hc.2.2.1, ?_⟩
    show 0 ≤ sFree d k (d (11 + k) (n : Int)) (sPos d k n).1 (sPos d k n).2.1 ∧ _
    have h5 := hc.2.2.2.2.1
    unfold sMarg at h3
    constructor
    · omega
    · show sFree d k (d (11 + k) (n : Int)) (sPos d k n).1 (sPos d k n).2.1 ≤ 1999
      omega
/-- days waited ahead of the n-th fixture -/
def sW (d : zM) (k : Int) : Nat → Int
  | 0 => 0
  | n + 1 => sW d k n + (sLoad d k (d (11 + k) (n : Int)) (sPos d k n).1 (sPos d k n).2.1 - sArr d k (d (11 + k) (n : Int)) (sPos d k n).1 (sPos d k n).2.1)
/-- the least of the first n fixtures' own margins and the waiting ahead of them -/
def sL (d : zM) (k : Int) : Nat → Int
  | 0 => -1000004
  | n + 1 => if n = 0 then sMarg d k (d (11 + k) (n : Int)) (sPos d k n).1 (sPos d k n).2.1 + sW d k n else if sMarg d k (d (11 + k) (n : Int)) (sPos d k n).1 (sPos d k n).2.1 + sW d k n < sL d k n then sMarg d k (d (11 + k) (n : Int)) (sPos d k n).1 (sPos d k n).2.1 + sW d k n else sL d k n
theorem sMarg_b {d : zM} {k c p t : Int} (hP : bP d) (hs : 1 ≤ d (6 + k) 1 ∧ d (6 + k) 1 ≤ 20) (hc : bC d c) (hp : 0 ≤ p ∧ p ≤ 7) (ht : 0 ≤ t ∧ t ≤ 2000) : -2083 ≤ sMarg d k c p t ∧ sMarg d k c p t ≤ 999 := by
  have := sArr_b (t := t) hP hs hc hp
  have h4 := hc.2.2.2.2.1
  unfold sMarg
  omega
theorem sWL_b {d : zM} {k : Int} {N : Nat} (hB : bD d) (hk : 0 ≤ k ∧ k < d 0 4) (hG : zGo d k N) : ∀ n : Nat, n ≤ N → (0 ≤ sW d k n ∧ sW d k n ≤ 1000 * (n : Int)) ∧ (-1000004 ≤ sL d k n ∧ sL d k n ≤ 999 + 1000 * (n : Int)) := by
  obtain ⟨hN, hP, hS, hC⟩ := hB
  have hs := hS k hk
  intro n
  induction n with
  | zero => intro _; exact ⟨⟨Int.le_refl _, by simp [sW]⟩, by simp [sL]⟩
  | succ n ih =>
    intro h
    obtain ⟨i1, i2⟩ := ih (by omega)
    have g1 := hG.1 n (by omega)
    have g2 := hG.2 n (by omega)
    have hc := hC _ g1
    have e1 := sArr_b (t := (sPos d k n).2.1) hP hs.2.1 hc g2.1
    have e2 := sLoad_b (t := (sPos d k n).2.1) hP hs.2.1 hc g2.1
    have e4 := sMarg_b hP hs.2.1 hc g2.1 g2.2
    constructor
    · unfold sW
      omega
    · unfold sL
      split
      · omega
      · split <;> omega
/-- the best of pairs: whether there is one, its ship, its cargo, what it earns -/
abbrev sQ : Type := Int × Int × Int × Int
def sEa (d : zM) (k c : Int) : Int := sEarn d k c (sEnd d k).1 (sEnd d k).2.1
def sStep (d : zM) (k c : Int) (q : sQ) : sQ := if d (16 + c) 6 = 0 ∧ sCould d k c = 0 ∧ (q.1 = 0 ∨ q.2.2.2 < sEa d k c) then (1, k, c, sEa d k c) else q
/-- the n cargoes from c0 on, with ship k -/
def sRow (d : zM) (k c0 : Int) : Nat → sQ → sQ
  | 0, q => q
  | n + 1, q => sStep d k (c0 + (n : Int)) (sRow d k c0 n q)
/-- the n ships from k0 on, each with the m cargoes from c0 on -/
def sAll (d : zM) (k0 c0 : Int) (m : Nat) : Nat → sQ → sQ
  | 0, q => q
  | n + 1, q => sRow d (k0 + (n : Int)) c0 m (sAll d k0 c0 m n q)
/-- only the course and what was chosen have changed -/
def zF2 (μ : zM) (b : Int) (μ' : zM) : Prop := ∀ c i, c ≠ b + 5 → (c ≠ b ∨ i < 9) → μ' c i = μ c i
theorem vw_f2 {μ μ' : zM} {b : Int} (h : zF2 μ b μ') : vw μ' b = vw μ b := vw_eq (fun o i h' => h _ _ (by unfold zrel at h'; omega) (by unfold zrel at h'; omega))
theorem sTime_n {d : zM} {k : Int} {r n : Nat} (h : ¬ sMarg d k (d (11 + k) (n : Int)) (sPos d k n).1 (sPos d k n).2.1 < 0) : sTime d k (r + 1) n = sTime d k r (n + 1) := by
  show (if _ then _ else _) = _
  rw [if_neg h]
theorem sTime_p {d : zM} {k : Int} {r n : Nat} (h : sMarg d k (d (11 + k) (n : Int)) (sPos d k n).1 (sPos d k n).2.1 < 0) : sTime d k (r + 1) n = n := by
  show (if _ then _ else _) = _
  rw [if_pos h]
theorem sL_f {d : zM} {k : Int} {n : Nat} (h : n = 0) : sMarg d k (d (11 + k) (n : Int)) (sPos d k n).1 (sPos d k n).2.1 + sW d k n = sL d k (n + 1) := by
  show _ = (if _ then _ else _)
  rw [if_pos h]
theorem sL_s {d : zM} {k : Int} {n : Nat} (h : ¬ n = 0) : (if sMarg d k (d (11 + k) (n : Int)) (sPos d k n).1 (sPos d k n).2.1 + sW d k n < sL d k n then sMarg d k (d (11 + k) (n : Int)) (sPos d k n).1 (sPos d k n).2.1 + sW d k n else sL d k n) = sL d k (n + 1) := by
  show _ = (if n = 0 then _ else _)
  rw [if_neg h]
theorem sStep_n {d : zM} {k c : Int} {q : sQ} (h : ¬ (d (16 + c) 6 = 0 ∧ sCould d k c = 0 ∧ (q.1 = 0 ∨ q.2.2.2 < sEa d k c))) : sStep d k c q = q := if_neg h
theorem sStep_p {d : zM} {k c : Int} {q : sQ} (h : d (16 + c) 6 = 0 ∧ sCould d k c = 0 ∧ (q.1 = 0 ∨ q.2.2.2 < sEa d k c)) : sStep d k c q = (1, k, c, sEa d k c) := if_pos h
theorem sStep_01 {d : zM} {k c : Int} {q : sQ} (h : q.1 = 0 ∨ q.1 = 1) : (sStep d k c q).1 = 0 ∨ (sStep d k c q).1 = 1 := by
  unfold sStep
  split
  · exact Or.inr rfl
  · exact h
theorem sRow_01 {d : zM} {k c : Int} {q : sQ} (h : q.1 = 0 ∨ q.1 = 1) : ∀ n, (sRow d k c n q).1 = 0 ∨ (sRow d k c n q).1 = 1 := by
  intro n
  induction n with
  | zero => exact h
  | succ n ih => exact sStep_01 ih
theorem sAll_01 {d : zM} {k c : Int} {m : Nat} {q : sQ} (h : q.1 = 0 ∨ q.1 = 1) : ∀ n, (sAll d k c m n q).1 = 0 ∨ (sAll d k c m n q).1 = 1 := by
  intro n
  induction n with
  | zero => exact h
  | succ n ih => exact sRow_01 ih m
theorem zF2_co {μ μ2 μ3 : zM} {b : Int} (h : zF2 μ b μ2) (h2 : ∀ c, c ≠ b + 5 → μ3 c = μ2 c) : zF2 μ b μ3 := fun c i hc hi => by rw [h2 c hc]; exact h c i hc hi
theorem zF2_up {μ μ2 : zM} {b i z : Int} (hi : 9 ≤ i) (h : zF2 μ b μ2) : zF2 μ b (zup μ2 b i z) := fun c j hc hj => by rw [zup_n (by omega)]; exact h c j hc hj
theorem sCould_b (d : zM) (k c : Int) : 0 ≤ sCould d k c ∧ sCould d k c ≤ 2 := by
  unfold sCould
  split
  · omega
  · split <;> omega
theorem sEarn_b {d : zM} {k c p t : Int} (hP : bP d) (hs : bS d k) (hc : bC d c) (hp : 0 ≤ p ∧ p ≤ 7) (ht : 0 ≤ t ∧ t ≤ 2000) : -300000 ≤ sEarn d k c p t ∧ sEarn d k c p t ≤ 9801 := by
  have e1 := sArr_b (t := t) hP hs.2.1 hc hp
  have e2 := sLoad_b (t := t) hP hs.2.1 hc hp
  have e3 := sFree_b (t := t) hP hs.2.1 hc hp
  have h0 := hc.1
  have h5 := hc.2.2.2.2.2.1
  have h2 := hs.2.2.1
  unfold sEarn
  have m1 : d (16 + c) 0 * d (16 + c) 5 ≤ 99 * 99 := Int.mul_le_mul h0.2 h5.2 (by omega) (by omega)
  have m0 : 0 ≤ d (16 + c) 0 * d (16 + c) 5 := Int.mul_nonneg (by omega) (by omega)
  have m2 : (sFree d k c p t - t) * d (6 + k) 2 ≤ 2300 * 99 := Int.mul_le_mul (by omega) h2.2 (by omega) (by omega)
  have m3 : 0 ≤ (sFree d k c p t - t) * d (6 + k) 2 := Int.mul_nonneg (by omega) (by omega)
  omega
theorem sEa_b {d : zM} {k c : Int} (hB : bD d) (hk : 0 ≤ k ∧ k < d 0 4) (hc : 0 ≤ c ∧ c < d 0 5) (hG : zGo d k (sNum d k)) : -300000 ≤ sEa d k c ∧ sEa d k c ≤ 9801 := by
  have hg := hG.2 _ (Nat.le_refl _)
  exact sEarn_b hB.2.1 (hB.2.2.1 k hk) (hB.2.2.2 c hc) hg.1 hg.2
/-- what is chosen stays in the range of what is earned -/
theorem sRow_b {d : zM} {k c : Int} {q : sQ} (hB : bD d) (hk : 0 ≤ k ∧ k < d 0 4) (hc : 0 ≤ c) (hG : zGo d k (sNum d k)) (hq : -300000 ≤ q.2.2.2 ∧ q.2.2.2 ≤ 9801 ∨ q.1 = 0) : ∀ n : Nat, c + (n : Int) ≤ d 0 5 → (-300000 ≤ (sRow d k c n q).2.2.2 ∧ (sRow d k c n q).2.2.2 ≤ 9801 ∨ (sRow d k c n q).1 = 0) := by
  intro n
  induction n with
  | zero => intro _; exact hq
  | succ n ih =>
    intro h
    have i1 := ih (by omega)
    show (-300000 ≤ (sStep d k (c + (n : Int)) (sRow d k c n q)).2.2.2 ∧ (sStep d k (c + (n : Int)) (sRow d k c n q)).2.2.2 ≤ 9801 ∨ (sStep d k (c + (n : Int)) (sRow d k c n q)).1 = 0)
    unfold sStep
    split
    · exact Or.inl (sEa_b hB hk (by omega) hG)
    · exact i1
theorem sAll_b {d : zM} {k c : Int} {m : Nat} {q : sQ} (hB : bD d) (hk : 0 ≤ k) (hc : 0 ≤ c) (hm : c + (m : Int) ≤ d 0 5) (hG : ∀ k, 0 ≤ k ∧ k < d 0 4 → zGo d k (sNum d k)) (hq : -300000 ≤ q.2.2.2 ∧ q.2.2.2 ≤ 9801 ∨ q.1 = 0) : ∀ n : Nat, k + (n : Int) ≤ d 0 4 → (-300000 ≤ (sAll d k c m n q).2.2.2 ∧ (sAll d k c m n q).2.2.2 ≤ 9801 ∨ (sAll d k c m n q).1 = 0) := by
  intro n
  induction n with
  | zero => intro _; exact hq
  | succ n ih =>
    intro h
    exact sRow_b hB (by omega) hc (hG _ (by omega)) (ih (by omega)) m hm
/-- the open cargoes of the first ones, as bits -/
def sOpen (d : zM) : Nat → Int32
  | 0 => iZ 0
  | n + 1 => if d (16 + (n : Int)) 6 = 0 then sOpen d n ||| (iZ 1 <<< (iZ (n : Int) &&& 31)) else sOpen d n
/-- a cargo's pair of ports as a bit -/
def sPair (d : zM) (c : Int) : Int64 := (1 : Int64) <<< ((iZ (8 * d (16 + c) 1 + d (16 + c) 2)).toInt64 &&& 63)
end
section
set_option maxHeartbeats 4000000 in
set_option maxRecDepth 100000 in
/-- isIn(v, lo, hi) -/
theorem m_X7_isIn (l : Launch) (ω : zO) (A : Nat → Prop) (μ : zM) (v lo hi : Int) (hv : -2147483648 ≤ v ∧ v ≤ 2147483647) (hlo : -2147483648 ≤ lo ∧ lo ≤ 2147483647) (hhi : -2147483648 ≤ hi ∧ hi ≤ 2147483647) : zMet l (ω) A yX7_isIn cX7_isIn 3 (some .boolean) 0 0 [.int (iZ v), .int (iZ lo), .int (iZ hi)] μ (zpI (.int (iZ (zB (lo ≤ v ∧ v ≤ hi)))) (fun m => m = μ)) := by
  refine zMet_of (by decide) (Nat.le_of_ble_eq_true rfl) (fun Γ hC => ?_)
  show Z Γ _ μ 0 [(0, .int (iZ v)), (1, .int (iZ lo)), (2, .int (iZ hi))] []
  refine z_iload_n hC dX7_isIn_0 rfl ?_
  refine z_iload_n hC dX7_isIn_1 rfl ?_
  refine z_icmp_lt hC 14 dX7_isIn_2 (by decide) (by omega) (by omega) (fun c_1 => ?_) (fun c_1 => ?_)
  · refine z_iconst hC dX7_isIn_14 ?_
    exact z_zret0 hC dX7_isIn_15 ⟨by rw [zB_f (by omega)], rfl⟩
  · refine z_iload_n hC dX7_isIn_5 rfl ?_
    refine z_iload_n hC dX7_isIn_6 rfl ?_
    refine z_icmp_gt hC 14 dX7_isIn_7 (by decide) (by omega) (by omega) (fun c_2 => ?_) (fun c_2 => ?_)
    · refine z_iconst hC dX7_isIn_14 ?_
      exact z_zret0 hC dX7_isIn_15 ⟨by rw [zB_f (by omega)], rfl⟩
    · refine z_iconst hC dX7_isIn_10 ?_
      refine z_goto hC 15 dX7_isIn_11 (by decide) ?_
      exact z_zret1 hC dX7_isIn_15 ⟨by rw [zB_t (by omega)], rfl⟩

set_option maxHeartbeats 4000000 in
set_option maxRecDepth 100000 in
/-- isPort(v) -/
theorem m_X7_isPort (l : Launch) (ω : zO) (A : Nat → Prop) (μ : zM) (v : Int) (hv : -2147483648 ≤ v ∧ v ≤ 2147483647) : zMet l (ω) A yX7_isPort cX7_isPort 1 (some .boolean) 1 22 [.int (iZ v)] μ (zpI (.int (iZ (zB (0 ≤ v ∧ v ≤ 7)))) (fun m => m = μ)) := by
  refine zMet_of (by decide) (Nat.le_of_ble_eq_true rfl) (fun Γ hC => ?_)
  show Z Γ _ μ 0 [(0, .int (iZ v))] []
  refine z_iload_n hC dX7_isPort_0 rfl ?_
  refine z_iconst hC dX7_isPort_1 ?_
  refine z_bipush hC dX7_isPort_2 (by decide) ?_
  refine z_callS hC [.int (iZ v), .int (iZ 0), .int (iZ 7)] 3 rfl dX7_isPort_4 (fun l => m_X7_isIn l _ _ _ v 0 7 (by omega) (by omega) (by omega)) qM_X7_156 qT_X7_isIn qi_X7 qC_X7_isIn (by decide +kernel) (by decide) (by decide) (Nat.le_of_ble_eq_true rfl) (zk_pure ?_) rfl
  exact z_zret hC dX7_isPort_7 ⟨rfl, rfl⟩

set_option maxHeartbeats 4000000 in
set_option maxRecDepth 100000 in
/-- isError(v) -/
theorem m_X7_isError (l : Launch) (ω : zO) (A : Nat → Prop) (μ : zM) (v : Int) (hv : -2147483648 ≤ v ∧ v ≤ 2147483647) : zMet l (ω) A yX7_isError cX7_isError 1 (some .boolean) 1 22 [.int (iZ v)] μ (zpI (.int (iZ (zB (-1000004 ≤ v ∧ v ≤ -1000001)))) (fun m => m = μ)) := by
  refine zMet_of (by decide) (Nat.le_of_ble_eq_true rfl) (fun Γ hC => ?_)
  show Z Γ _ μ 0 [(0, .int (iZ v))] []
  refine z_iload_n hC dX7_isError_0 rfl ?_
  refine z_ldc hC (-1000004) qc_X7_155 rfl dX7_isError_1 ?_
  refine z_ldc hC (-1000001) qc_X7_77 rfl dX7_isError_3 ?_
  refine z_callS hC [.int (iZ v), .int (iZ (-1000004)), .int (iZ (-1000001))] 3 rfl dX7_isError_5 (fun l => m_X7_isIn l _ _ _ v (-1000004) (-1000001) (by omega) (by omega) (by omega)) qM_X7_156 qT_X7_isIn qi_X7 qC_X7_isIn (by decide +kernel) (by decide) (by decide) (Nat.le_of_ble_eq_true rfl) (zk_pure ?_) rfl
  exact z_zret hC dX7_isError_8 ⟨rfl, rfl⟩

set_option maxHeartbeats 4000000 in
set_option maxRecDepth 100000 in
/-- divideUp(v, u) -/
theorem m_X7_divideUp (l : Launch) (ω : zO) (A : Nat → Prop) (μ : zM) (v u : Int) (hv : 0 ≤ v ∧ v ≤ 1000000) (hu : 1 ≤ u ∧ u ≤ 1000000) : zMet l (ω) A yX7_divideUp cX7_divideUp 2 (some .int) 0 0 [.int (iZ v), .int (iZ u)] μ (zpI (.int (iZ ((v + u - 1) / u))) (fun m => m = μ)) := by
  refine zMet_of (by decide) (Nat.le_of_ble_eq_true rfl) (fun Γ hC => ?_)
  show Z Γ _ μ 0 [(0, .int (iZ v)), (1, .int (iZ u))] []
  refine z_iload_n hC dX7_divideUp_0 rfl ?_
  refine z_iconst hC dX7_divideUp_1 ?_
  refine z_icmp_ge hC 9 dX7_divideUp_2 (by decide) (by omega) (by omega) (fun c_1 => ?_) (fun c_1 => ?_)
  · refine z_iload_n hC dX7_divideUp_9 rfl ?_
    refine z_iload_n hC dX7_divideUp_10 rfl ?_
    refine z_iadd hC dX7_divideUp_11 ?_
    refine z_iconst hC dX7_divideUp_12 ?_
    refine z_isub hC dX7_divideUp_13 ?_
    refine z_iload_n hC dX7_divideUp_14 rfl ?_
    refine z_idiv hC dX7_divideUp_15 (by omega) (by omega) ?_
    exact z_iret hC dX7_divideUp_16 ⟨rfl, rfl⟩
  · exfalso; omega

set_option maxHeartbeats 4000000 in
set_option maxRecDepth 100000 in
/-- Desk.isShip(v) -/
theorem m_X2_isShip (l : Launch) (G : va_G) (ca : Nat → ClassId) (ad : Int → Nat) (A : Nat → Prop) (μ : zM) (b : Int) (hb : zb b) (v : Int) (hv : -2147483648 ≤ v ∧ v ≤ 2147483647) (hS : 0 ≤ μ b 4 ∧ μ b 4 ≤ 10) : zMet l (cω G ca ad) A yX2_isShip cX2_isShip 2 (some .boolean) 0 0 [.ref (ad b), .int (iZ v)] μ (zpI (.int (iZ (zB (0 ≤ v ∧ v < μ b 4)))) (fun m => m = μ)) := by
  refine zMet_of (by decide) (Nat.le_of_ble_eq_true rfl) (fun Γ hC => ?_)
  show Z Γ _ μ 0 [(0, .ref (ad b)), (1, .int (iZ v))] []
  refine z_iload_n hC dX2_isShip_0 rfl ?_
  refine z_if_lt hC 16 dX2_isShip_1 (by decide) (by omega) (fun c_1 => ?_) (fun c_1 => ?_)
  · refine z_iconst hC dX2_isShip_16 ?_
    exact z_zret0 hC dX2_isShip_17 ⟨by rw [zB_f (by omega)], rfl⟩
  · refine z_iload_n hC dX2_isShip_4 rfl ?_
    refine z_aload_n hC dX2_isShip_5 rfl ?_
    refine z_get hC iA_X2 rfl 4 (by decide) qF_X2_52 rfl dX2_isShip_6 (cl_desk hb) (cd_desk hb) rfl ?_
    refine z_icmp_ge hC 16 dX2_isShip_9 (by decide) (by omega) (by omega) (fun c_2 => ?_) (fun c_2 => ?_)
    · refine z_iconst hC dX2_isShip_16 ?_
      exact z_zret0 hC dX2_isShip_17 ⟨by rw [zB_f (by omega)], rfl⟩
    · refine z_iconst hC dX2_isShip_12 ?_
      refine z_goto hC 17 dX2_isShip_13 (by decide) ?_
      exact z_zret1 hC dX2_isShip_17 ⟨by rw [zB_t (by omega)], rfl⟩

set_option maxHeartbeats 4000000 in
set_option maxRecDepth 100000 in
/-- Desk.isCargo(v) -/
theorem m_X2_isCargo (l : Launch) (G : va_G) (ca : Nat → ClassId) (ad : Int → Nat) (A : Nat → Prop) (μ : zM) (b : Int) (hb : zb b) (v : Int) (hv : -2147483648 ≤ v ∧ v ≤ 2147483647) (hS : 0 ≤ μ b 5 ∧ μ b 5 ≤ 10) : zMet l (cω G ca ad) A yX2_isCargo cX2_isCargo 2 (some .boolean) 0 0 [.ref (ad b), .int (iZ v)] μ (zpI (.int (iZ (zB (0 ≤ v ∧ v < μ b 5)))) (fun m => m = μ)) := by
  refine zMet_of (by decide) (Nat.le_of_ble_eq_true rfl) (fun Γ hC => ?_)
  show Z Γ _ μ 0 [(0, .ref (ad b)), (1, .int (iZ v))] []
  refine z_iload_n hC dX2_isCargo_0 rfl ?_
  refine z_if_lt hC 16 dX2_isCargo_1 (by decide) (by omega) (fun c_1 => ?_) (fun c_1 => ?_)
  · refine z_iconst hC dX2_isCargo_16 ?_
    exact z_zret0 hC dX2_isCargo_17 ⟨by rw [zB_f (by omega)], rfl⟩
  · refine z_iload_n hC dX2_isCargo_4 rfl ?_
    refine z_aload_n hC dX2_isCargo_5 rfl ?_
    refine z_get hC iA_X2 rfl 5 (by decide) qF_X2_56 rfl dX2_isCargo_6 (cl_desk hb) (cd_desk hb) rfl ?_
    refine z_icmp_ge hC 16 dX2_isCargo_9 (by decide) (by omega) (by omega) (fun c_2 => ?_) (fun c_2 => ?_)
    · refine z_iconst hC dX2_isCargo_16 ?_
      exact z_zret0 hC dX2_isCargo_17 ⟨by rw [zB_f (by omega)], rfl⟩
    · refine z_iconst hC dX2_isCargo_12 ?_
      refine z_goto hC 17 dX2_isCargo_13 (by decide) ?_
      exact z_zret1 hC dX2_isCargo_17 ⟨by rw [zB_t (by omega)], rfl⟩

set_option maxHeartbeats 4000000 in
set_option maxRecDepth 100000 in
/-- Cargo.worth() -/
theorem m_X0_worth (l : Launch) (G : va_G) (ca : Nat → ClassId) (ad : Int → Nat) (A : Nat → Prop) (μ : zM) (b : Int) (hb : zb b) (k : Int) (hk : 0 ≤ k ∧ k < 10) : zMet l (cω G ca ad) A yX0_worth cX0_worth 1 (some .int) 0 0 [.ref (ad (b + 16 + k))] μ (zpI (.int (iZ (μ (b + 16 + k) 0 * μ (b + 16 + k) 5))) (fun m => m = μ)) := by
  refine zMet_of (by decide) (Nat.le_of_ble_eq_true rfl) (fun Γ hC => ?_)
  show Z Γ _ μ 0 [(0, .ref (ad (b + 16 + k)))] []
  refine z_aload_n hC dX0_worth_0 rfl ?_
  refine z_get hC iA_X0 rfl 0 (by decide) qF_X0_7 rfl dX0_worth_1 (cl_cargo hb (by omega)) (cd_cargo hb (by omega)) rfl ?_
  refine z_aload_n hC dX0_worth_4 rfl ?_
  refine z_get hC iA_X0 rfl 5 (by decide) qF_X0_25 rfl dX0_worth_5 (cl_cargo hb (by omega)) (cd_cargo hb (by omega)) rfl ?_
  refine z_imul hC dX0_worth_8 ?_
  exact z_iret hC dX0_worth_9 ⟨rfl, rfl⟩
end
section
set_option maxHeartbeats 4000000 in
set_option maxRecDepth 100000 in
/-- between(p, q) -/
theorem m_X2_between (l : Launch) (G : va_G) (ca : Nat → ClassId) (ad : Int → Nat) (A : Nat → Prop) (μ : zM) (b : Int) (hb : zb b) (d : zM) (hd : vw μ b = d) (p q : Int) (hP : bP d) (hp : 0 ≤ p ∧ p ≤ 7) (hq : 0 ≤ q ∧ q ≤ 7) : zMet l (cω G ca ad) A yX2_between cX2_between 5 (some .int) 0 0 [.ref (ad b), .int (iZ p), .int (iZ q)] μ (zpI (.int (iZ (sFar d p q))) (fun m => m = μ)) := by
  refine zMet_of (by decide) (Nat.le_of_ble_eq_true rfl) (fun Γ hC => ?_)
  show Z Γ _ μ 0 [(0, .ref (ad b)), (1, .int (iZ p)), (2, .int (iZ q))] []
  have h1 := hP p hp
  have h2 := hP q hq
  refine z_aload_n hC dX2_between_0 rfl ?_
  refine z_get hC iA_X2 rfl 0 (by decide) qF_X2_9 rfl dX2_between_1 (cl_desk hb) (cd_desk hb) rfl ?_
  refine z_iload_n hC dX2_between_4 rfl ?_
  refine z_iald hC dX2_between_5 (cl_x hb) (cd_x hb) (by omega) (by omega) (by decide) ?_
  refine z_top (b := d 1 p) ((vw_x (by omega)).symm.trans (congrFun (congrFun hd _) _)) ?_
  refine z_aload_n hC dX2_between_6 rfl ?_
  refine z_get hC iA_X2 rfl 0 (by decide) qF_X2_9 rfl dX2_between_7 (cl_desk hb) (cd_desk hb) rfl ?_
  refine z_iload_n hC dX2_between_10 rfl ?_
  refine z_iald hC dX2_between_11 (cl_x hb) (cd_x hb) (by omega) (by omega) (by decide) ?_
  refine z_top (b := d 1 q) ((vw_x (by omega)).symm.trans (congrFun (congrFun hd _) _)) ?_
  refine z_isub hC dX2_between_12 ?_
  refine z_istore_n hC dX2_between_13 (by decide) rfl ?_
  refine z_aload_n hC dX2_between_14 rfl ?_
  refine z_get hC iA_X2 rfl 1 (by decide) qF_X2_15 rfl dX2_between_15 (cl_desk hb) (cd_desk hb) rfl ?_
  refine z_iload_n hC dX2_between_18 rfl ?_
  refine z_iald hC dX2_between_19 (cl_y hb) (cd_y hb) (by omega) (by omega) (by decide) ?_
  refine z_top (b := d 2 p) ((vw_y (by omega)).symm.trans (congrFun (congrFun hd _) _)) ?_
  refine z_aload_n hC dX2_between_20 rfl ?_
  refine z_get hC iA_X2 rfl 1 (by decide) qF_X2_15 rfl dX2_between_21 (cl_desk hb) (cd_desk hb) rfl ?_
  refine z_iload_n hC dX2_between_24 rfl ?_
  refine z_iald hC dX2_between_25 (cl_y hb) (cd_y hb) (by omega) (by omega) (by decide) ?_
  refine z_top (b := d 2 q) ((vw_y (by omega)).symm.trans (congrFun (congrFun hd _) _)) ?_
  refine z_isub hC dX2_between_26 ?_
  refine z_istore hC dX2_between_27 (by decide) rfl ?_
  refine z_bipush hC dX2_between_29 (by decide) ?_
  refine z_iload_n hC dX2_between_31 rfl ?_
  refine z_if_ge hC 40 dX2_between_32 (by decide) (by omega) (fun c_1 => ?_) (fun c_1 => ?_)
  · refine z_iload_n hC dX2_between_40 rfl ?_
    refine z_iload hC dX2_between_41 rfl ?_
    refine z_if_ge hC 52 dX2_between_43 (by decide) (by omega) (fun c_2 => ?_) (fun c_2 => ?_)
    · refine z_iload hC dX2_between_52 rfl ?_
      refine z_iadd hC dX2_between_54 ?_
      refine z_imul hC dX2_between_55 ?_
      exact z_iret hC dX2_between_56 ⟨by unfold sFar zabs; split <;> split <;> first | rfl | (exfalso; omega), rfl⟩
    · refine z_iload hC dX2_between_46 rfl ?_
      refine z_ineg hC dX2_between_48 ?_
      refine z_goto hC 54 dX2_between_49 (by decide) ?_
      refine z_iadd hC dX2_between_54 ?_
      refine z_imul hC dX2_between_55 ?_
      exact z_iret hC dX2_between_56 ⟨by unfold sFar zabs; split <;> split <;> first | rfl | (exfalso; omega), rfl⟩
  · refine z_iload_n hC dX2_between_35 rfl ?_
    refine z_ineg hC dX2_between_36 ?_
    refine z_goto hC 41 dX2_between_37 (by decide) ?_
    refine z_iload hC dX2_between_41 rfl ?_
    refine z_if_ge hC 52 dX2_between_43 (by decide) (by omega) (fun c_3 => ?_) (fun c_3 => ?_)
    · refine z_iload hC dX2_between_52 rfl ?_
      refine z_iadd hC dX2_between_54 ?_
      refine z_imul hC dX2_between_55 ?_
      exact z_iret hC dX2_between_56 ⟨by unfold sFar zabs; split <;> split <;> first | rfl | (exfalso; omega), rfl⟩
    · refine z_iload hC dX2_between_46 rfl ?_
      refine z_ineg hC dX2_between_48 ?_
      refine z_goto hC 54 dX2_between_49 (by decide) ?_
      refine z_iadd hC dX2_between_54 ?_
      refine z_imul hC dX2_between_55 ?_
      exact z_iret hC dX2_between_56 ⟨by unfold sFar zabs; split <;> split <;> first | rfl | (exfalso; omega), rfl⟩

set_option maxHeartbeats 4000000 in
set_option maxRecDepth 100000 in
/-- Course.begin(ship) -/
theorem m_X1_begin (l : Launch) (G : va_G) (ca : Nat → ClassId) (ad : Int → Nat) (A : Nat → Prop) (μ : zM) (b : Int) (hb : zb b) (d : zM) (hd : vw μ b = d) (k : Int) (hk : 0 ≤ k ∧ k < 5) : zMet l (cω G ca ad) A yX1_begin cX1_begin 2 none 0 0 [.ref (ad (b + 5)), .ref (ad (b + 6 + k))] μ (zpV (fun μ' => (∀ c, c ≠ b + 5 → μ' c = μ c) ∧ μ' (b + 5) 0 = d (6 + k) 3 ∧ μ' (b + 5) 1 = d (6 + k) 4 ∧ μ' (b + 5) 6 = 0)) := by
  refine zMet_of (by decide) (Nat.le_of_ble_eq_true rfl) (fun Γ hC => ?_)
  show Z Γ _ μ 0 [(0, .ref (ad (b + 5))), (1, .ref (ad (b + 6 + k)))] []
  refine z_aload_n hC dX1_begin_0 rfl ?_
  refine z_aload_n hC dX1_begin_1 rfl ?_
  refine z_get hC iA_X6 rfl 3 (by decide) qF_X1_9 rfl dX1_begin_2 (cl_ship hb (by omega)) (cd_ship hb (by omega)) rfl ?_
  refine z_top (b := d (6 + k) 3) ((vw_ship (by omega) (by omega)).symm.trans (congrFun (congrFun hd _) _)) ?_
  refine z_put hC iA_X1 rfl tyX1 tyX1_ok nmX1 0 (by decide) rfl rfl 0 rfl qF_X1_15 rfl dX1_begin_5 (cl_course hb) (cd_course hb) (fun _ => rfl) (fun _ => Nat.le_of_ble_eq_true rfl) ?_
  refine z_nm (fun μ1 hμ1 => ?_)
  have hd2 : vw μ1 b = d := by rw [hμ1, vw_c5]; exact hd
  refine z_aload_n hC dX1_begin_8 rfl ?_
  refine z_aload_n hC dX1_begin_9 rfl ?_
  refine z_get hC iA_X6 rfl 4 (by decide) qF_X1_20 rfl dX1_begin_10 (cl_ship hb (by omega)) (cd_ship hb (by omega)) rfl ?_
  refine z_top (b := d (6 + k) 4) ((vw_ship (by omega) (by omega)).symm.trans (congrFun (congrFun hd2 _) _)) ?_
  refine z_put hC iA_X1 rfl tyX1 tyX1_ok nmX1 1 (by decide) rfl rfl 1 rfl qF_X1_23 rfl dX1_begin_13 (cl_course hb) (cd_course hb) (fun _ => rfl) (fun _ => Nat.le_of_ble_eq_true rfl) ?_
  refine z_nm (fun μ3 hμ3 => ?_)
  have hd4 : vw μ3 b = d := by rw [hμ3, vw_c5]; exact hd2
  refine z_aload_n hC dX1_begin_16 rfl ?_
  refine z_iconst hC dX1_begin_17 ?_
  refine z_put hC iA_X1 rfl tyX1 tyX1_ok nmX1 6 (by decide) rfl rfl 6 rfl qF_X1_26 rfl dX1_begin_18 (cl_course hb) (cd_course hb) (fun _ => rfl) (fun _ => Nat.le_of_ble_eq_true rfl) ?_
  refine z_nm (fun μ5 hμ5 => ?_)
  have hd6 : vw μ5 b = d := by rw [hμ5, vw_c5]; exact hd4
  exact z_vret hC dX1_begin_21 ⟨rfl, fun c hc => by rw [hμ5, zup_o hc, hμ3, zup_o hc, hμ1, zup_o hc], by rw [hμ5, zup_n (by omega), hμ3, zup_n (by omega), hμ1, zup_s], by rw [hμ5, zup_n (by omega), hμ3, zup_s], by rw [hμ5, zup_s]⟩

set_option maxHeartbeats 4000000 in
set_option maxRecDepth 100000 in
/-- sail(ship k, cargo c) from port p on day t -/
theorem m_X2_sail (l : Launch) (G : va_G) (ca : Nat → ClassId) (ad : Int → Nat) (A : Nat → Prop) (μ : zM) (b : Int) (hb : zb b) (d : zM) (hd : vw μ b = d) (k c p t e : Int) (hN : bN d) (hP : bP d) (hk : 0 ≤ k ∧ k < 5) (hs : bS d k) (hc : 0 ≤ c ∧ c < d 0 5) (hcc : bC d c) (hp : 0 ≤ p ∧ p ≤ 7) (ht : 0 ≤ t ∧ t ≤ 2000) (h0 : μ (b + 5) 0 = p) (h1 : μ (b + 5) 1 = t) (h6 : μ (b + 5) 6 = e) : zMet l (cω G ca ad) A yX2_sail cX2_sail 7 none 1 40 [.ref (ad b), .ref (ad (b + 6 + k)), .int (iZ c)] μ (zpV (fun μ' => zCo μ b μ' (d (16 + c) 2) (sFree d k c p t) (sArr d k c p t) (sLoad d k c p t) (sFree d k c p t - t) (sEarn d k c p t) (e + sEarn d k c p t) (sMarg d k c p t))) := by
  refine zMet_of (by decide) (Nat.le_of_ble_eq_true rfl) (fun Γ hC => ?_)
  show Z Γ _ μ 0 [(0, .ref (ad b)), (1, .ref (ad (b + 6 + k))), (2, .int (iZ c))] []
  obtain ⟨hN1, hN2⟩ := hN
  obtain ⟨hs0, hs1, hs2, hs3, hs4, hs6⟩ := id hs
  obtain ⟨hc0, hc1, hc2, hc3, hc4, hc5, hc6⟩ := id hcc
  have hf1 := sFar_b hP hp hc1
  have hf2 := sFar_b hP hc1 hc2
  have hq1 := sSail_b hP hp hc1 hs1
  have hq2 := sSail_b hP hc1 hc2 hs1
  have hA : sArr d k c p t = t + sSail d k p (d (16 + c) 1) := rfl
  refine z_aload_n hC dX2_sail_0 rfl ?_
  refine z_iload_n hC dX2_sail_1 rfl ?_
  have hN1 : μ b 5 = d 0 5 := by rw [← hd, vw_Cn]
  refine z_callV hC [.int (iZ c)] 1 rfl dX2_sail_2 (fun l => m_X2_isCargo l G ca ad _ μ b hb c (by omega) (by omega)) qM_X2_116 qI_X2_isCargo qS_X2_isCargo qi_X2 qC_X2_isCargo (by decide +kernel) (by decide) (by decide) (cl_desk hb) (cd_desk hb) rfl (Nat.le_of_ble_eq_true rfl) (zk_pure ?_) rfl
  rw [hN1]
  refine z_ifb_ne hC 9 dX2_sail_5 (by decide) (fun c_2 => ?_) (fun c_2 => ?_)
  · refine z_aload_n hC dX2_sail_9 rfl ?_
    refine z_get hC iA_X2 rfl 3 (by decide) qF_X2_26 rfl dX2_sail_10 (cl_desk hb) (cd_desk hb) rfl ?_
    refine z_iload_n hC dX2_sail_13 rfl ?_
    refine z_aald hC dX2_sail_14 3 rfl (cl_cargoes hb) (fun _ i => b + 16 + i) (cd_cargoes hb) (by omega) (by omega) (by decide) ?_
    refine z_astore_n hC dX2_sail_15 (by decide) rfl ?_
    refine z_bipush hC dX2_sail_16 (by decide) ?_
    refine z_aload_n hC dX2_sail_18 rfl ?_
    refine z_get hC iA_X6 rfl 1 (by decide) qF_X2_83 rfl dX2_sail_19 (cl_ship hb (by omega)) (cd_ship hb (by omega)) rfl ?_
    refine z_top (b := d (6 + k) 1) ((vw_ship (by omega) (by omega)).symm.trans (congrFun (congrFun hd _) _)) ?_
    refine z_imul hC dX2_sail_22 ?_
    refine z_istore hC dX2_sail_23 (by decide) rfl ?_
    refine z_aload_n hC dX2_sail_25 rfl ?_
    refine z_get hC iA_X2 rfl 8 (by decide) qF_X2_33 rfl dX2_sail_26 (cl_desk hb) (cd_desk hb) rfl ?_
    refine z_get hC iA_X1 rfl 1 (by decide) qF_X2_135 rfl dX2_sail_29 (cl_course hb) (cd_course hb) rfl ?_
    refine z_top (b := t) (by rw [h1]) ?_
    refine z_istore hC dX2_sail_32 (by decide) rfl ?_
    refine z_aload_n hC dX2_sail_34 rfl ?_
    refine z_get hC iA_X2 rfl 8 (by decide) qF_X2_33 rfl dX2_sail_35 (cl_desk hb) (cd_desk hb) rfl ?_
    refine z_iload hC dX2_sail_38 rfl ?_
    refine z_aload_n hC dX2_sail_40 rfl ?_
    refine z_aload_n hC dX2_sail_41 rfl ?_
    refine z_get hC iA_X2 rfl 8 (by decide) qF_X2_33 rfl dX2_sail_42 (cl_desk hb) (cd_desk hb) rfl ?_
    refine z_get hC iA_X1 rfl 0 (by decide) qF_X2_162 rfl dX2_sail_45 (cl_course hb) (cd_course hb) rfl ?_
    refine z_top (b := p) (by rw [h0]) ?_
    refine z_aload_n hC dX2_sail_48 rfl ?_
    refine z_get hC iA_X0 rfl 1 (by decide) qF_X2_98 rfl dX2_sail_49 (cl_cargo hb (by omega)) (cd_cargo hb (by omega)) rfl ?_
    refine z_top (b := d (16 + c) 1) ((vw_cargo (by omega) (by omega)).symm.trans (congrFun (congrFun hd _) _)) ?_
    refine z_callV hC [.int (iZ p), .int (iZ (d (16 + c) 1))] 2 rfl dX2_sail_52 (fun l => m_X2_between l G ca ad _ μ b hb d hd p (d (16 + c) 1) hP (by omega) (by omega)) qM_X2_177 qI_X2_between qS_X2_between qi_X2 qC_X2_between (by decide +kernel) (by decide) (by decide) (cl_desk hb) (cd_desk hb) rfl (Nat.le_of_ble_eq_true rfl) (zk_pure ?_) rfl
    refine z_iload hC dX2_sail_55 rfl ?_
    refine z_callSN hC [.int (iZ (sFar d p (d (16 + c) 1))), .int (iZ (24 * (d (6 + k) 1)))] 2 rfl dX2_sail_57 (fun l => m_X7_divideUp l _ _ _ (sFar d p (d (16 + c) 1)) (24 * (d (6 + k) 1)) (by omega) (by omega)) (by decide +kernel) qT_X7_divideUp qi_X7 qC_X7_divideUp (by decide +kernel) (by decide) (by decide) (Nat.le_of_ble_eq_true rfl) (zk_pure ?_) rfl
    refine z_top (b := sSail d k p (d (16 + c) 1)) rfl ?_
    refine z_iadd hC dX2_sail_60 ?_
    refine z_top (b := sArr d k c p t) rfl ?_
    refine z_put hC iA_X1 rfl tyX1 tyX1_ok nmX1 2 (by decide) rfl rfl 2 rfl qF_X2_180 rfl dX2_sail_61 (cl_course hb) (cd_course hb) (fun _ => rfl) (fun _ => Nat.le_of_ble_eq_true rfl) ?_
    refine z_nm (fun μ3 hμ3 => ?_)
    have hd4 : vw μ3 b = d := by rw [hμ3, vw_c5]; exact hd
    refine z_aload_n hC dX2_sail_64 rfl ?_
    refine z_get hC iA_X2 rfl 8 (by decide) qF_X2_33 rfl dX2_sail_65 (cl_desk hb) (cd_desk hb) rfl ?_
    refine z_aload_n hC dX2_sail_68 rfl ?_
    refine z_get hC iA_X0 rfl 4 (by decide) qF_X2_107 rfl dX2_sail_69 (cl_cargo hb (by omega)) (cd_cargo hb (by omega)) rfl ?_
    refine z_top (b := d (16 + c) 4) ((vw_cargo (by omega) (by omega)).symm.trans (congrFun (congrFun hd4 _) _)) ?_
    refine z_aload_n hC dX2_sail_72 rfl ?_
    refine z_get hC iA_X2 rfl 8 (by decide) qF_X2_33 rfl dX2_sail_73 (cl_desk hb) (cd_desk hb) rfl ?_
    refine z_get hC iA_X1 rfl 2 (by decide) qF_X2_180 rfl dX2_sail_76 (cl_course hb) (cd_course hb) rfl ?_
    refine z_top (by rw [hμ3, zup_s]) ?_
    refine z_isub hC dX2_sail_79 ?_
    refine z_top (b := sMarg d k c p t) rfl ?_
    refine z_put hC iA_X1 rfl tyX1 tyX1_ok nmX1 7 (by decide) rfl rfl 7 rfl qF_X2_183 rfl dX2_sail_80 (cl_course hb) (cd_course hb) (fun _ => rfl) (fun _ => Nat.le_of_ble_eq_true rfl) ?_
    refine z_nm (fun μ5 hμ5 => ?_)
    have hd6 : vw μ5 b = d := by rw [hμ5, vw_c5]; exact hd4
    refine z_aload_n hC dX2_sail_83 rfl ?_
    refine z_get hC iA_X2 rfl 8 (by decide) qF_X2_33 rfl dX2_sail_84 (cl_desk hb) (cd_desk hb) rfl ?_
    refine z_aload_n hC dX2_sail_87 rfl ?_
    refine z_get hC iA_X2 rfl 8 (by decide) qF_X2_33 rfl dX2_sail_88 (cl_desk hb) (cd_desk hb) rfl ?_
    refine z_get hC iA_X1 rfl 2 (by decide) qF_X2_180 rfl dX2_sail_91 (cl_course hb) (cd_course hb) rfl ?_
    refine z_top (by rw [hμ5, zup_n (by omega), hμ3, zup_s]) ?_
    refine z_aload_n hC dX2_sail_94 rfl ?_
    refine z_get hC iA_X0 rfl 3 (by decide) qF_X2_104 rfl dX2_sail_95 (cl_cargo hb (by omega)) (cd_cargo hb (by omega)) rfl ?_
    refine z_top (b := d (16 + c) 3) ((vw_cargo (by omega) (by omega)).symm.trans (congrFun (congrFun hd6 _) _)) ?_
    refine z_max hC qM_X2_186 dX2_sail_98 (by omega) (by omega) (by decide) (Nat.le_of_ble_eq_true rfl) ?_
    refine z_top (b := sLoad d k c p t) rfl ?_
    refine z_put hC iA_X1 rfl tyX1 tyX1_ok nmX1 3 (by decide) rfl rfl 3 rfl qF_X2_191 rfl dX2_sail_101 (cl_course hb) (cd_course hb) (fun _ => rfl) (fun _ => Nat.le_of_ble_eq_true rfl) ?_
    refine z_nm (fun μ7 hμ7 => ?_)
    have hd8 : vw μ7 b = d := by rw [hμ7, vw_c5]; exact hd6
    refine z_aload_n hC dX2_sail_104 rfl ?_
    refine z_get hC iA_X2 rfl 8 (by decide) qF_X2_33 rfl dX2_sail_105 (cl_desk hb) (cd_desk hb) rfl ?_
    refine z_get hC iA_X1 rfl 3 (by decide) qF_X2_191 rfl dX2_sail_108 (cl_course hb) (cd_course hb) rfl ?_
    refine z_top (by rw [hμ7, zup_s]) ?_
    refine z_iconst hC dX2_sail_111 ?_
    refine z_iadd hC dX2_sail_112 ?_
    refine z_istore hC dX2_sail_113 (by decide) rfl ?_
    refine z_aload_n hC dX2_sail_115 rfl ?_
    refine z_get hC iA_X2 rfl 8 (by decide) qF_X2_33 rfl dX2_sail_116 (cl_desk hb) (cd_desk hb) rfl ?_
    refine z_iload hC dX2_sail_119 rfl ?_
    refine z_aload_n hC dX2_sail_121 rfl ?_
    refine z_aload_n hC dX2_sail_122 rfl ?_
    refine z_get hC iA_X0 rfl 1 (by decide) qF_X2_98 rfl dX2_sail_123 (cl_cargo hb (by omega)) (cd_cargo hb (by omega)) rfl ?_
    refine z_top (b := d (16 + c) 1) ((vw_cargo (by omega) (by omega)).symm.trans (congrFun (congrFun hd8 _) _)) ?_
    refine z_aload_n hC dX2_sail_126 rfl ?_
    refine z_get hC iA_X0 rfl 2 (by decide) qF_X2_101 rfl dX2_sail_127 (cl_cargo hb (by omega)) (cd_cargo hb (by omega)) rfl ?_
    refine z_top (b := d (16 + c) 2) ((vw_cargo (by omega) (by omega)).symm.trans (congrFun (congrFun hd8 _) _)) ?_
    refine z_callV hC [.int (iZ (d (16 + c) 1)), .int (iZ (d (16 + c) 2))] 2 rfl dX2_sail_130 (fun l => m_X2_between l G ca ad _ μ7 b hb d hd8 (d (16 + c) 1) (d (16 + c) 2) hP (by omega) (by omega)) qM_X2_177 qI_X2_between qS_X2_between qi_X2 qC_X2_between (by decide +kernel) (by decide) (by decide) (cl_desk hb) (cd_desk hb) rfl (Nat.le_of_ble_eq_true rfl) (zk_pure ?_) rfl
    refine z_iload hC dX2_sail_133 rfl ?_
    refine z_callSN hC [.int (iZ (sFar d (d (16 + c) 1) (d (16 + c) 2))), .int (iZ (24 * (d (6 + k) 1)))] 2 rfl dX2_sail_135 (fun l => m_X7_divideUp l _ _ _ (sFar d (d (16 + c) 1) (d (16 + c) 2)) (24 * (d (6 + k) 1)) (by omega) (by omega)) (by decide +kernel) qT_X7_divideUp qi_X7 qC_X7_divideUp (by decide +kernel) (by decide) (by decide) (Nat.le_of_ble_eq_true rfl) (zk_pure ?_) rfl
    refine z_top (b := sSail d k (d (16 + c) 1) (d (16 + c) 2)) rfl ?_
    refine z_iadd hC dX2_sail_138 ?_
    refine z_iconst hC dX2_sail_139 ?_
    refine z_iadd hC dX2_sail_140 ?_
    refine z_top (b := sFree d k c p t) rfl ?_
    refine z_put hC iA_X1 rfl tyX1 tyX1_ok nmX1 1 (by decide) rfl rfl 1 rfl qF_X2_135 rfl dX2_sail_141 (cl_course hb) (cd_course hb) (fun _ => rfl) (fun _ => Nat.le_of_ble_eq_true rfl) ?_
    refine z_nm (fun μ9 hμ9 => ?_)
    have hd10 : vw μ9 b = d := by rw [hμ9, vw_c5]; exact hd8
    refine z_aload_n hC dX2_sail_144 rfl ?_
    refine z_get hC iA_X2 rfl 8 (by decide) qF_X2_33 rfl dX2_sail_145 (cl_desk hb) (cd_desk hb) rfl ?_
    refine z_aload_n hC dX2_sail_148 rfl ?_
    refine z_get hC iA_X0 rfl 2 (by decide) qF_X2_101 rfl dX2_sail_149 (cl_cargo hb (by omega)) (cd_cargo hb (by omega)) rfl ?_
    refine z_top (b := d (16 + c) 2) ((vw_cargo (by omega) (by omega)).symm.trans (congrFun (congrFun hd10 _) _)) ?_
    refine z_put hC iA_X1 rfl tyX1 tyX1_ok nmX1 0 (by decide) rfl rfl 0 rfl qF_X2_162 rfl dX2_sail_152 (cl_course hb) (cd_course hb) (fun _ => rfl) (fun _ => Nat.le_of_ble_eq_true rfl) ?_
    refine z_nm (fun μ11 hμ11 => ?_)
    have hd12 : vw μ11 b = d := by rw [hμ11, vw_c5]; exact hd10
    refine z_aload_n hC dX2_sail_155 rfl ?_
    refine z_get hC iA_X2 rfl 8 (by decide) qF_X2_33 rfl dX2_sail_156 (cl_desk hb) (cd_desk hb) rfl ?_
    refine z_aload_n hC dX2_sail_159 rfl ?_
    refine z_get hC iA_X2 rfl 8 (by decide) qF_X2_33 rfl dX2_sail_160 (cl_desk hb) (cd_desk hb) rfl ?_
    refine z_get hC iA_X1 rfl 1 (by decide) qF_X2_135 rfl dX2_sail_163 (cl_course hb) (cd_course hb) rfl ?_
    refine z_top (by rw [hμ11, zup_n (by omega), hμ9, zup_s]) ?_
    refine z_iload hC dX2_sail_166 rfl ?_
    refine z_isub hC dX2_sail_168 ?_
    refine z_put hC iA_X1 rfl tyX1 tyX1_ok nmX1 4 (by decide) rfl rfl 4 rfl qF_X2_194 rfl dX2_sail_169 (cl_course hb) (cd_course hb) (fun _ => rfl) (fun _ => Nat.le_of_ble_eq_true rfl) ?_
    refine z_nm (fun μ13 hμ13 => ?_)
    have hd14 : vw μ13 b = d := by rw [hμ13, vw_c5]; exact hd12
    refine z_aload_n hC dX2_sail_172 rfl ?_
    refine z_get hC iA_X2 rfl 8 (by decide) qF_X2_33 rfl dX2_sail_173 (cl_desk hb) (cd_desk hb) rfl ?_
    refine z_aload_n hC dX2_sail_176 rfl ?_
    refine z_callV hC [] 0 rfl dX2_sail_177 (fun l => m_X0_worth l G ca ad _ μ13 b hb c (by omega)) qM_X2_145 qI_X0_worth qS_X0_worth qi_X0 qC_X0_worth (by decide +kernel) (by decide) (by decide) (cl_cargo hb (by omega)) (cd_cargo hb (by omega)) rfl (Nat.le_of_ble_eq_true rfl) (zk_pure ?_) rfl
    refine z_top (b := d (16 + c) 0 * d (16 + c) 5) (congr (congrArg HMul.hMul ((vw_cargo (by omega) (by omega)).symm.trans (congrFun (congrFun hd14 _) _))) ((vw_cargo (by omega) (by omega)).symm.trans (congrFun (congrFun hd14 _) _))) ?_
    refine z_aload_n hC dX2_sail_180 rfl ?_
    refine z_get hC iA_X2 rfl 8 (by decide) qF_X2_33 rfl dX2_sail_181 (cl_desk hb) (cd_desk hb) rfl ?_
    refine z_get hC iA_X1 rfl 4 (by decide) qF_X2_194 rfl dX2_sail_184 (cl_course hb) (cd_course hb) rfl ?_
    refine z_top (by rw [hμ13, zup_s]) ?_
    refine z_aload_n hC dX2_sail_187 rfl ?_
    refine z_get hC iA_X6 rfl 2 (by decide) qF_X2_86 rfl dX2_sail_188 (cl_ship hb (by omega)) (cd_ship hb (by omega)) rfl ?_
    refine z_top (b := d (6 + k) 2) ((vw_ship (by omega) (by omega)).symm.trans (congrFun (congrFun hd14 _) _)) ?_
    refine z_imul hC dX2_sail_191 ?_
    refine z_isub hC dX2_sail_192 ?_
    refine z_top (b := sEarn d k c p t) rfl ?_
    refine z_put hC iA_X1 rfl tyX1 tyX1_ok nmX1 5 (by decide) rfl rfl 5 rfl qF_X2_197 rfl dX2_sail_193 (cl_course hb) (cd_course hb) (fun _ => rfl) (fun _ => Nat.le_of_ble_eq_true rfl) ?_
    refine z_nm (fun μ15 hμ15 => ?_)
    have hd16 : vw μ15 b = d := by rw [hμ15, vw_c5]; exact hd14
    refine z_aload_n hC dX2_sail_196 rfl ?_
    refine z_get hC iA_X2 rfl 8 (by decide) qF_X2_33 rfl dX2_sail_197 (cl_desk hb) (cd_desk hb) rfl ?_
    refine z_dup hC dX2_sail_200 rfl ?_
    refine z_get hC iA_X1 rfl 6 (by decide) qF_X2_159 rfl dX2_sail_201 (cl_course hb) (cd_course hb) rfl ?_
    refine z_top (b := e) (by rw [hμ15, zup_n (by omega), hμ13, zup_n (by omega), hμ11, zup_n (by omega), hμ9, zup_n (by omega), hμ7, zup_n (by omega), hμ5, zup_n (by omega), hμ3, zup_n (by omega), h6]) ?_
    refine z_aload_n hC dX2_sail_204 rfl ?_
    refine z_get hC iA_X2 rfl 8 (by decide) qF_X2_33 rfl dX2_sail_205 (cl_desk hb) (cd_desk hb) rfl ?_
    refine z_get hC iA_X1 rfl 5 (by decide) qF_X2_197 rfl dX2_sail_208 (cl_course hb) (cd_course hb) rfl ?_
    refine z_top (by rw [hμ15, zup_s]) ?_
    refine z_iadd hC dX2_sail_211 ?_
    refine z_put hC iA_X1 rfl tyX1 tyX1_ok nmX1 6 (by decide) rfl rfl 6 rfl qF_X2_159 rfl dX2_sail_212 (cl_course hb) (cd_course hb) (fun _ => rfl) (fun _ => Nat.le_of_ble_eq_true rfl) ?_
    refine z_nm (fun μ17 hμ17 => ?_)
    have hd18 : vw μ17 b = d := by rw [hμ17, vw_c5]; exact hd16
    exact z_vret hC dX2_sail_215 ⟨rfl, fun c9 hc9 => by rw [hμ17, zup_o hc9, hμ15, zup_o hc9, hμ13, zup_o hc9, hμ11, zup_o hc9, hμ9, zup_o hc9, hμ7, zup_o hc9, hμ5, zup_o hc9, hμ3, zup_o hc9], by rw [hμ17, zup_n (by omega), hμ15, zup_n (by omega), hμ13, zup_n (by omega), hμ11, zup_s], by rw [hμ17, zup_n (by omega), hμ15, zup_n (by omega), hμ13, zup_n (by omega), hμ11, zup_n (by omega), hμ9, zup_s], by rw [hμ17, zup_n (by omega), hμ15, zup_n (by omega), hμ13, zup_n (by omega), hμ11, zup_n (by omega), hμ9, zup_n (by omega), hμ7, zup_n (by omega), hμ5, zup_n (by omega), hμ3, zup_s], by rw [hμ17, zup_n (by omega), hμ15, zup_n (by omega), hμ13, zup_n (by omega), hμ11, zup_n (by omega), hμ9, zup_n (by omega), hμ7, zup_s], by rw [hμ17, zup_n (by omega), hμ15, zup_n (by omega), hμ13, zup_s], by rw [hμ17, zup_n (by omega), hμ15, zup_s], by rw [hμ17, zup_s], by rw [hμ17, zup_n (by omega), hμ15, zup_n (by omega), hμ13, zup_n (by omega), hμ11, zup_n (by omega), hμ9, zup_n (by omega), hμ7, zup_n (by omega), hμ5, zup_s]⟩
  · exfalso; omega
end
section
set_option maxHeartbeats 4000000 in
set_option maxRecDepth 100000 in
/-- follow(ship k, f): through the first N of its fixtures -/
theorem m_X2_follow (l : Launch) (G : va_G) (ca : Nat → ClassId) (ad : Int → Nat) (A : Nat → Prop) (μ : zM) (b : Int) (hb : zb b) (d : zM) (hd : vw μ b = d) (k f : Int) (N : Nat) (hB : bD d) (hk : 0 ≤ k ∧ k < d 0 4) (hf : 0 ≤ f ∧ f ≤ 10) (hNf : ((N : Int) = f ∧ f ≤ d (6 + k) 6) ∨ ((N : Int) = d (6 + k) 6 ∧ d (6 + k) 6 ≤ f)) (hG : zGo d k N) : zMet l (cω G ca ad) A yX2_follow cX2_follow 5 (some (.object "ShipFixtures$Course")) 2 66 [.ref (ad b), .int (iZ k), .int (iZ f)] μ (zpI (.ref (ad (b + 5))) (zFo d b k N μ)) := by
  refine zMet_of (by decide) (Nat.le_of_ble_eq_true rfl) (fun Γ hC => ?_)
  show Z Γ _ μ 0 [(0, .ref (ad b)), (1, .int (iZ k)), (2, .int (iZ f))] []
  obtain ⟨hN, hP, hB3, hB4⟩ := id hB
  obtain ⟨hN1, hN2⟩ := id hN
  obtain ⟨hs0, hs1, hs2, hs3, hs4, hs6⟩ := hB3 k (by omega)
  refine z_aload_n hC dX2_follow_0 rfl ?_
  refine z_get hC iA_X2 rfl 2 (by decide) qF_X2_20 rfl dX2_follow_1 (cl_desk hb) (cd_desk hb) rfl ?_
  refine z_iload_n hC dX2_follow_4 rfl ?_
  refine z_aald hC dX2_follow_5 2 rfl (cl_ships hb) (fun _ i => b + 6 + i) (cd_ships hb) (by omega) (by omega) (by decide) ?_
  refine z_astore_n hC dX2_follow_6 (by decide) rfl ?_
  refine z_aload_n hC dX2_follow_7 rfl ?_
  refine z_get hC iA_X2 rfl 8 (by decide) qF_X2_33 rfl dX2_follow_8 (cl_desk hb) (cd_desk hb) rfl ?_
  refine z_aload_n hC dX2_follow_11 rfl ?_
  refine z_callV hC [.ref (ad (b + 6 + k))] 1 rfl dX2_follow_12 (fun l => m_X1_begin l G ca ad _ μ b hb d hd k (by omega)) qM_X2_166 qI_X1_begin qS_X1_begin qi_X1 qC_X1_begin (by decide +kernel) (by decide) (by decide) (cl_course hb) (cd_course hb) rfl (Nat.le_of_ble_eq_true rfl) (zk_void (fun μ1 hμ1 => ?_)) rfl
  obtain ⟨hμ1f, hμ10, hμ11, hμ16⟩ := id hμ1
  have hd2 : vw μ1 b = d := by rw [vw_fr5 hμ1f]; exact hd
  refine z_iconst hC dX2_follow_15 ?_
  refine z_istore hC dX2_follow_16 (by decide) rfl ?_
  have LOOP : ∀ (r n : Nat), n + r = N → ∀ μ1 : zM, zFo d b k n μ μ1 → Z Γ (cω G ca ad) μ1 18 [(4, .int (iZ (n : Int))), (0, .ref (ad b)), (2, .int (iZ f)), (3, .ref (ad (b + 6 + k)))] [] := by
    intro r
    induction r with
    | zero =>
      intro n hn μ1 hI
      obtain ⟨hI0, hI1, hI2, hI3, hI4⟩ := id hI
      have hd1 : vw μ1 b = d := by rw [vw_fr5 hI0]; exact hd
      refine z_iload hC dX2_follow_18 rfl ?_
      refine z_iload_n hC dX2_follow_20 rfl ?_
      refine z_icmp_ge hC 51 dX2_follow_21 (by decide) (by omega) (by omega) (fun c_3 => ?_) (fun c_3 => ?_)
      · refine z_aload_n hC dX2_follow_51 rfl ?_
        refine z_get hC iA_X2 rfl 8 (by decide) qF_X2_33 rfl dX2_follow_52 (cl_desk hb) (cd_desk hb) rfl ?_
        obtain rfl : n = N := by omega
        exact z_aret hC dX2_follow_55 ⟨rfl, hI0, hI1, hI2, hI3, hI4⟩
      · refine z_iload hC dX2_follow_24 rfl ?_
        refine z_aload_n hC dX2_follow_26 rfl ?_
        refine z_get hC iA_X6 rfl 6 (by decide) qF_X2_126 rfl dX2_follow_27 (cl_ship hb (by omega)) (cd_ship hb (by omega)) rfl ?_
        refine z_top (b := d (6 + k) 6) ((vw_ship (by omega) (by omega)).symm.trans (congrFun (congrFun hd1 _) _)) ?_
        refine z_icmp_ge hC 51 dX2_follow_30 (by decide) (by omega) (by omega) (fun c_4 => ?_) (fun c_4 => ?_)
        · refine z_aload_n hC dX2_follow_51 rfl ?_
          refine z_get hC iA_X2 rfl 8 (by decide) qF_X2_33 rfl dX2_follow_52 (cl_desk hb) (cd_desk hb) rfl ?_
          obtain rfl : n = N := by omega
          exact z_aret hC dX2_follow_55 ⟨rfl, hI0, hI1, hI2, hI3, hI4⟩
        · exfalso; omega
    | succ r ih =>
      intro n hn μ1 hI
      obtain ⟨hI0, hI1, hI2, hI3, hI4⟩ := id hI
      have hd1 : vw μ1 b = d := by rw [vw_fr5 hI0]; exact hd
      have hg1 := hG.1 n (by omega)
      have hg2 := hG.2 n (by omega)
      refine z_iload hC dX2_follow_18 rfl ?_
      refine z_iload_n hC dX2_follow_20 rfl ?_
      refine z_icmp_ge hC 51 dX2_follow_21 (by decide) (by omega) (by omega) (fun c_5 => ?_) (fun c_5 => ?_)
      · exfalso; omega
      · refine z_iload hC dX2_follow_24 rfl ?_
        refine z_aload_n hC dX2_follow_26 rfl ?_
        refine z_get hC iA_X6 rfl 6 (by decide) qF_X2_126 rfl dX2_follow_27 (cl_ship hb (by omega)) (cd_ship hb (by omega)) rfl ?_
        refine z_top (b := d (6 + k) 6) ((vw_ship (by omega) (by omega)).symm.trans (congrFun (congrFun hd1 _) _)) ?_
        refine z_icmp_ge hC 51 dX2_follow_30 (by decide) (by omega) (by omega) (fun c_6 => ?_) (fun c_6 => ?_)
        · exfalso; omega
        · refine z_aload_n hC dX2_follow_33 rfl ?_
          refine z_aload_n hC dX2_follow_34 rfl ?_
          refine z_aload_n hC dX2_follow_35 rfl ?_
          refine z_get hC iA_X6 rfl 7 (by decide) qF_X2_129 rfl dX2_follow_36 (cl_ship hb (by omega)) (cd_ship hb (by omega)) rfl ?_
          refine z_iload hC dX2_follow_39 rfl ?_
          refine z_iald hC dX2_follow_41 (cl_fx hb (by omega)) (cd_fx hb (by omega)) (by omega) (by omega) (by decide) ?_
          refine z_top (b := d (11 + k) (n : Int)) ((vw_fx (by omega) (by omega)).symm.trans (congrFun (congrFun hd1 _) _)) ?_
          refine z_callV hC [.ref (ad (b + 6 + k)), .int (iZ (d (11 + k) (n : Int)))] 2 rfl dX2_follow_42 (fun l => m_X2_sail l G ca ad _ μ1 b hb d hd1 k (d (11 + k) (n : Int)) ((sPos d k n).1) ((sPos d k n).2.1) ((sPos d k n).2.2) hN hP (by omega) (hB.2.2.1 k (by omega)) (by omega) (hB.2.2.2 _ (by omega)) (by omega) (by omega) hI1 hI2 hI3) qM_X2_169 qI_X2_sail qS_X2_sail qi_X2 qC_X2_sail (by decide +kernel) (by decide) (by decide) (cl_desk hb) (cd_desk hb) rfl (Nat.le_of_ble_eq_true rfl) (zk_void (fun μ7 hμ7 => ?_)) rfl
          obtain ⟨hμ7f, hμ70, hμ71, hμ72, hμ73, hμ74, hμ75, hμ76, hμ77⟩ := id hμ7
          have hd8 : vw μ7 b = d := by rw [vw_fr5 hμ7f]; exact hd1
          refine z_iinc hC dX2_follow_45 rfl (by decide) rfl ?_
          refine z_goto hC 18 dX2_follow_48 (by decide) ?_
          refine z_weak (L' := [(4, .int (iZ ((n + 1 : Nat) : Int))), (0, .ref (ad b)), (2, .int (iZ f)), (3, .ref (ad (b + 6 + k)))]) ⟨rfl, rfl, rfl, rfl, trivial⟩ ?_
          exact ih (n + 1) (by omega) _ (zFo_s hI hμ7)
  refine z_weak (L' := [(4, .int (iZ ((0 : Nat) : Int))), (0, .ref (ad b)), (2, .int (iZ f)), (3, .ref (ad (b + 6 + k)))]) ⟨rfl, rfl, rfl, rfl, trivial⟩ ?_
  exact LOOP N 0 (by omega) _ ⟨hμ1f, hμ10, hμ11, hμ16, fun m hm => absurd hm (by omega)⟩
end
section
set_option maxHeartbeats 4000000 in
set_option maxRecDepth 100000 in
/-- followAll(ship k) -/
theorem m_X2_followAll (l : Launch) (G : va_G) (ca : Nat → ClassId) (ad : Int → Nat) (A : Nat → Prop) (μ : zM) (b : Int) (hb : zb b) (d : zM) (hd : vw μ b = d) (k : Int) (hB : bD d) (hk : 0 ≤ k ∧ k < d 0 4) (hG : zGo d k (sNum d k)) : zMet l (cω G ca ad) A yX2_followAll cX2_followAll 2 (some (.object "ShipFixtures$Course")) 3 90 [.ref (ad b), .int (iZ k)] μ (zpI (.ref (ad (b + 5))) (zFo d b k (sNum d k) μ)) := by
  refine zMet_of (by decide) (Nat.le_of_ble_eq_true rfl) (fun Γ hC => ?_)
  show Z Γ _ μ 0 [(0, .ref (ad b)), (1, .int (iZ k))] []
  obtain ⟨hN, hP, hB3, hB4⟩ := id hB
  obtain ⟨hN1, hN2⟩ := id hN
  obtain ⟨hs0, hs1, hs2, hs3, hs4, hs6⟩ := hB3 k (by omega)
  refine z_aload_n hC dX2_followAll_0 rfl ?_
  refine z_iload_n hC dX2_followAll_1 rfl ?_
  refine z_bipush hC dX2_followAll_2 (by decide) ?_
  refine z_callV hC [.int (iZ k), .int (iZ 10)] 2 rfl dX2_followAll_4 (fun l => m_X2_follow l G ca ad _ μ b hb d hd k 10 (sNum d k) hB (by omega) (by omega) (Or.inr ⟨sNum_e (by omega), by omega⟩) hG) qM_X2_173 qI_X2_follow qS_X2_follow qi_X2 qC_X2_follow (by decide +kernel) (by decide) (by decide) (cl_desk hb) (cd_desk hb) rfl (Nat.le_of_ble_eq_true rfl) (zk_int (fun μ1 hμ1 => ?_)) rfl
  obtain ⟨hμ1f, hμ10, hμ11, hμ16, hμ1m⟩ := id hμ1
  have hd2 : vw μ1 b = d := by rw [vw_fr5 hμ1f]; exact hd
  exact z_aret hC dX2_followAll_7 ⟨rfl, hμ1⟩

set_option maxHeartbeats 4000000 in
set_option maxRecDepth 100000 in
/-- hindrance(ship k, cargo c) -/
theorem m_X2_hindrance (l : Launch) (G : va_G) (ca : Nat → ClassId) (ad : Int → Nat) (A : Nat → Prop) (μ : zM) (b : Int) (hb : zb b) (d : zM) (hd : vw μ b = d) (k c : Int) (hB : bD d) (hk : 0 ≤ k ∧ k < d 0 4) (hc : 0 ≤ c ∧ c < d 0 5) (hG : zGo d k (sNum d k)) : zMet l (cω G ca ad) A yX2_hindrance cX2_hindrance 3 (some .int) 3 90 [.ref (ad b), .int (iZ k), .int (iZ c)] μ (zpI (.int (iZ (sCould d k c))) (fun μ' => zCo μ b μ' (d (16 + c) 2) (sFree d k c (sEnd d k).1 ((sEnd d k).2.1)) (sArr d k c (sEnd d k).1 ((sEnd d k).2.1)) (sLoad d k c (sEnd d k).1 ((sEnd d k).2.1)) (sFree d k c (sEnd d k).1 ((sEnd d k).2.1) - (sEnd d k).2.1) (sEarn d k c (sEnd d k).1 ((sEnd d k).2.1)) ((sEnd d k).2.2 + sEarn d k c (sEnd d k).1 ((sEnd d k).2.1)) (sMarg d k c (sEnd d k).1 ((sEnd d k).2.1)))) := by
  refine zMet_of (by decide) (Nat.le_of_ble_eq_true rfl) (fun Γ hC => ?_)
  show Z Γ _ μ 0 [(0, .ref (ad b)), (1, .int (iZ k)), (2, .int (iZ c))] []
  obtain ⟨hN, hP, hB3, hB4⟩ := id hB
  obtain ⟨hN1, hN2⟩ := id hN
  obtain ⟨hs0, hs1, hs2, hs3, hs4, hs6⟩ := hB3 k (by omega)
  have hg : (0 ≤ (sEnd d k).1 ∧ (sEnd d k).1 ≤ 7) ∧ (0 ≤ (sEnd d k).2.1 ∧ (sEnd d k).2.1 ≤ 2000) := hG.2 _ (Nat.le_refl _)
  obtain ⟨hc0, hc1, hc2, hc3, hc4, hc5, hc6⟩ := hB4 c hc
  have hm := sMarg_b hP hs1 (hB4 c hc) hg.1 hg.2
  refine z_aload_n hC dX2_hindrance_0 rfl ?_
  refine z_iload_n hC dX2_hindrance_1 rfl ?_
  refine z_bipush hC dX2_hindrance_2 (by decide) ?_
  refine z_callV hC [.int (iZ k), .int (iZ 10)] 2 rfl dX2_hindrance_4 (fun l => m_X2_follow l G ca ad _ μ b hb d hd k 10 (sNum d k) hB (by omega) (by omega) (Or.inr ⟨sNum_e (by omega), by omega⟩) hG) qM_X2_173 qI_X2_follow qS_X2_follow qi_X2 qC_X2_follow (by decide +kernel) (by decide) (by decide) (cl_desk hb) (cd_desk hb) rfl (Nat.le_of_ble_eq_true rfl) (zk_int (fun μ1 hμ1 => ?_)) rfl
  obtain ⟨hμ1f, hμ10, hμ11, hμ16, hμ1m⟩ := id hμ1
  have hμ10 : μ1 (b + 5) 0 = (sEnd d k).1 := hμ10
  have hμ11 : μ1 (b + 5) 1 = (sEnd d k).2.1 := hμ11
  have hμ16 : μ1 (b + 5) 6 = (sEnd d k).2.2 := hμ16
  have hd2 : vw μ1 b = d := by rw [vw_fr5 hμ1f]; exact hd
  refine z_pop hC dX2_hindrance_7 rfl ?_
  refine z_aload_n hC dX2_hindrance_8 rfl ?_
  refine z_aload_n hC dX2_hindrance_9 rfl ?_
  refine z_get hC iA_X2 rfl 2 (by decide) qF_X2_20 rfl dX2_hindrance_10 (cl_desk hb) (cd_desk hb) rfl ?_
  refine z_iload_n hC dX2_hindrance_13 rfl ?_
  refine z_aald hC dX2_hindrance_14 2 rfl (cl_ships hb) (fun _ i => b + 6 + i) (cd_ships hb) (by omega) (by omega) (by decide) ?_
  refine z_iload_n hC dX2_hindrance_15 rfl ?_
  refine z_callV hC [.ref (ad (b + 6 + k)), .int (iZ c)] 2 rfl dX2_hindrance_16 (fun l => m_X2_sail l G ca ad _ μ1 b hb d hd2 k c ((sEnd d k).1) ((sEnd d k).2.1) ((sEnd d k).2.2) hN hP (by omega) (hB.2.2.1 _ (by omega)) (by omega) (hB.2.2.2 _ (by omega)) (by omega) (by omega) hμ10 hμ11 hμ16) qM_X2_169 qI_X2_sail qS_X2_sail qi_X2 qC_X2_sail (by decide +kernel) (by decide) (by decide) (cl_desk hb) (cd_desk hb) rfl (Nat.le_of_ble_eq_true rfl) (zk_void (fun μ3 hμ3 => ?_)) rfl
  obtain ⟨hμ3f, hμ30, hμ31, hμ32, hμ33, hμ34, hμ35, hμ36, hμ37⟩ := id hμ3
  have hd4 : vw μ3 b = d := by rw [vw_fr5 hμ3f]; exact hd2
  refine z_aload_n hC dX2_hindrance_19 rfl ?_
  refine z_get hC iA_X2 rfl 3 (by decide) qF_X2_26 rfl dX2_hindrance_20 (cl_desk hb) (cd_desk hb) rfl ?_
  refine z_iload_n hC dX2_hindrance_23 rfl ?_
  refine z_aald hC dX2_hindrance_24 3 rfl (cl_cargoes hb) (fun _ i => b + 16 + i) (cd_cargoes hb) (by omega) (by omega) (by decide) ?_
  refine z_get hC iA_X0 rfl 0 (by decide) qF_X2_95 rfl dX2_hindrance_25 (cl_cargo hb (by omega)) (cd_cargo hb (by omega)) rfl ?_
  refine z_top (b := d (16 + c) 0) ((vw_cargo (by omega) (by omega)).symm.trans (congrFun (congrFun hd4 _) _)) ?_
  refine z_aload_n hC dX2_hindrance_28 rfl ?_
  refine z_get hC iA_X2 rfl 2 (by decide) qF_X2_20 rfl dX2_hindrance_29 (cl_desk hb) (cd_desk hb) rfl ?_
  refine z_iload_n hC dX2_hindrance_32 rfl ?_
  refine z_aald hC dX2_hindrance_33 2 rfl (cl_ships hb) (fun _ i => b + 6 + i) (cd_ships hb) (by omega) (by omega) (by decide) ?_
  refine z_get hC iA_X6 rfl 0 (by decide) qF_X2_80 rfl dX2_hindrance_34 (cl_ship hb (by omega)) (cd_ship hb (by omega)) rfl ?_
  refine z_top (b := d (6 + k) 0) ((vw_ship (by omega) (by omega)).symm.trans (congrFun (congrFun hd4 _) _)) ?_
  refine z_icmp_le hC 42 dX2_hindrance_37 (by decide) (by omega) (by omega) (fun c_5 => ?_) (fun c_5 => ?_)
  · refine z_aload_n hC dX2_hindrance_42 rfl ?_
    refine z_get hC iA_X2 rfl 8 (by decide) qF_X2_33 rfl dX2_hindrance_43 (cl_desk hb) (cd_desk hb) rfl ?_
    refine z_get hC iA_X1 rfl 7 (by decide) qF_X2_183 rfl dX2_hindrance_46 (cl_course hb) (cd_course hb) rfl ?_
    refine z_top (b := sMarg d k c ((sEnd d k).1) ((sEnd d k).2.1)) (by rw [hμ37]) ?_
    refine z_if_ge hC 56 dX2_hindrance_49 (by decide) (by omega) (fun c_6 => ?_) (fun c_6 => ?_)
    · refine z_iconst hC dX2_hindrance_56 ?_
      exact z_iret hC dX2_hindrance_57 ⟨by unfold sCould; rw [if_neg (by omega), if_neg (by omega)], (fun c9 hc9 => (hμ3f c9 hc9).trans (hμ1f c9 hc9)), hμ30, hμ31, hμ32, hμ33, hμ34, hμ35, hμ36, hμ37⟩
    · refine z_iconst hC dX2_hindrance_52 ?_
      refine z_goto hC 57 dX2_hindrance_53 (by decide) ?_
      exact z_iret hC dX2_hindrance_57 ⟨by unfold sCould; rw [if_neg (by omega), if_pos (by omega)], (fun c9 hc9 => (hμ3f c9 hc9).trans (hμ1f c9 hc9)), hμ30, hμ31, hμ32, hμ33, hμ34, hμ35, hμ36, hμ37⟩
  · refine z_iconst hC dX2_hindrance_40 ?_
    exact z_iret hC dX2_hindrance_41 ⟨by unfold sCould; rw [if_pos (by omega)], (fun c9 hc9 => (hμ3f c9 hc9).trans (hμ1f c9 hc9)), hμ30, hμ31, hμ32, hμ33, hμ34, hμ35, hμ36, hμ37⟩

set_option maxHeartbeats 4000000 in
set_option maxRecDepth 100000 in
/-- fixturesInTime(ship k) -/
theorem m_X2_fixturesInTime (l : Launch) (G : va_G) (ca : Nat → ClassId) (ad : Int → Nat) (A : Nat → Prop) (μ : zM) (b : Int) (hb : zb b) (d : zM) (hd : vw μ b = d) (k : Int) (hB : bD d) (hk : 0 ≤ k ∧ k < d 0 4) (hF : ∀ n : Nat, n < sNum d k → 0 ≤ d (11 + k) (n : Int) ∧ d (11 + k) (n : Int) < d 0 5) : zMet l (cω G ca ad) A yX2_fixturesInTime cX2_fixturesInTime 4 (some .int) 2 66 [.ref (ad b), .int (iZ k)] μ (zpI (.int (iZ ((sInT d k : Nat) : Int))) (fun μ' => ∀ c, c ≠ b + 5 → μ' c = μ c)) := by
  refine zMet_of (by decide) (Nat.le_of_ble_eq_true rfl) (fun Γ hC => ?_)
  show Z Γ _ μ 0 [(0, .ref (ad b)), (1, .int (iZ k))] []
  obtain ⟨hN, hP, hB3, hB4⟩ := id hB
  obtain ⟨hN1, hN2⟩ := id hN
  obtain ⟨hs0, hs1, hs2, hs3, hs4, hs6⟩ := hB3 k (by omega)
  have hNe := sNum_e (d := d) (k := k) (by omega)
  refine z_aload_n hC dX2_fixturesInTime_0 rfl ?_
  refine z_get hC iA_X2 rfl 2 (by decide) qF_X2_20 rfl dX2_fixturesInTime_1 (cl_desk hb) (cd_desk hb) rfl ?_
  refine z_iload_n hC dX2_fixturesInTime_4 rfl ?_
  refine z_aald hC dX2_fixturesInTime_5 2 rfl (cl_ships hb) (fun _ i => b + 6 + i) (cd_ships hb) (by omega) (by omega) (by decide) ?_
  refine z_astore_n hC dX2_fixturesInTime_6 (by decide) rfl ?_
  refine z_aload_n hC dX2_fixturesInTime_7 rfl ?_
  refine z_get hC iA_X2 rfl 8 (by decide) qF_X2_33 rfl dX2_fixturesInTime_8 (cl_desk hb) (cd_desk hb) rfl ?_
  refine z_aload_n hC dX2_fixturesInTime_11 rfl ?_
  refine z_callV hC [.ref (ad (b + 6 + k))] 1 rfl dX2_fixturesInTime_12 (fun l => m_X1_begin l G ca ad _ μ b hb d hd k (by omega)) qM_X2_166 qI_X1_begin qS_X1_begin qi_X1 qC_X1_begin (by decide +kernel) (by decide) (by decide) (cl_course hb) (cd_course hb) rfl (Nat.le_of_ble_eq_true rfl) (zk_void (fun μ1 hμ1 => ?_)) rfl
  obtain ⟨hμ1f, hμ10, hμ11, hμ16⟩ := id hμ1
  have hd2 : vw μ1 b = d := by rw [vw_fr5 hμ1f]; exact hd
  refine z_iconst hC dX2_fixturesInTime_15 ?_
  refine z_istore_n hC dX2_fixturesInTime_16 (by decide) rfl ?_
  have LOOP : ∀ (r n : Nat), n + r = sNum d k → ∀ μ1 : zM, zFo d b k n μ μ1 → (∀ m : Nat, m < n → 0 ≤ sMarg d k (d (11 + k) (m : Int)) (sPos d k m).1 (sPos d k m).2.1) → sTime d k r n = sInT d k → Z Γ (cω G ca ad) μ1 17 [(3, .int (iZ (n : Int))), (0, .ref (ad b)), (2, .ref (ad (b + 6 + k)))] [] := by
    intro r
    induction r with
    | zero =>
      intro n hn μ1 hI ht hT
      obtain ⟨hI0, hI1, hI2, hI3, hI4⟩ := id hI
      have hd1 : vw μ1 b = d := by rw [vw_fr5 hI0]; exact hd
      refine z_iload_n hC dX2_fixturesInTime_17 rfl ?_
      refine z_aload_n hC dX2_fixturesInTime_18 rfl ?_
      refine z_get hC iA_X6 rfl 6 (by decide) qF_X2_126 rfl dX2_fixturesInTime_19 (cl_ship hb (by omega)) (cd_ship hb (by omega)) rfl ?_
      refine z_top (b := d (6 + k) 6) ((vw_ship (by omega) (by omega)).symm.trans (congrFun (congrFun hd1 _) _)) ?_
      refine z_icmp_ge hC 54 dX2_fixturesInTime_22 (by decide) (by omega) (by omega) (fun c_3 => ?_) (fun c_3 => ?_)
      · refine z_aload_n hC dX2_fixturesInTime_54 rfl ?_
        refine z_get hC iA_X6 rfl 6 (by decide) qF_X2_126 rfl dX2_fixturesInTime_55 (cl_ship hb (by omega)) (cd_ship hb (by omega)) rfl ?_
        refine z_top (b := d (6 + k) 6) ((vw_ship (by omega) (by omega)).symm.trans (congrFun (congrFun hd1 _) _)) ?_
        exact z_iret hC dX2_fixturesInTime_58 ⟨by rw [← hT, show d (6 + k) 6 = (n : Int) by omega]; rfl, hI0⟩
      · exfalso; omega
    | succ r ih =>
      intro n hn μ1 hI ht hT
      obtain ⟨hI0, hI1, hI2, hI3, hI4⟩ := id hI
      have hd1 : vw μ1 b = d := by rw [vw_fr5 hI0]; exact hd
      have hg1 := hF n (by omega)
      have hg2 := sPos_b hB (by omega) n (fun m hm => hF m (by omega)) ht
      have hm9 := sMarg_b (t := (sPos d k n).2.1) hP hs1 (hB4 _ hg1) hg2.1 (by omega)
      refine z_iload_n hC dX2_fixturesInTime_17 rfl ?_
      refine z_aload_n hC dX2_fixturesInTime_18 rfl ?_
      refine z_get hC iA_X6 rfl 6 (by decide) qF_X2_126 rfl dX2_fixturesInTime_19 (cl_ship hb (by omega)) (cd_ship hb (by omega)) rfl ?_
      refine z_top (b := d (6 + k) 6) ((vw_ship (by omega) (by omega)).symm.trans (congrFun (congrFun hd1 _) _)) ?_
      refine z_icmp_ge hC 54 dX2_fixturesInTime_22 (by decide) (by omega) (by omega) (fun c_4 => ?_) (fun c_4 => ?_)
      · exfalso; omega
      · refine z_aload_n hC dX2_fixturesInTime_25 rfl ?_
        refine z_aload_n hC dX2_fixturesInTime_26 rfl ?_
        refine z_aload_n hC dX2_fixturesInTime_27 rfl ?_
        refine z_get hC iA_X6 rfl 7 (by decide) qF_X2_129 rfl dX2_fixturesInTime_28 (cl_ship hb (by omega)) (cd_ship hb (by omega)) rfl ?_
        refine z_iload_n hC dX2_fixturesInTime_31 rfl ?_
        refine z_iald hC dX2_fixturesInTime_32 (cl_fx hb (by omega)) (cd_fx hb (by omega)) (by omega) (by omega) (by decide) ?_
        refine z_top (b := d (11 + k) (n : Int)) ((vw_fx (by omega) (by omega)).symm.trans (congrFun (congrFun hd1 _) _)) ?_
        refine z_callV hC [.ref (ad (b + 6 + k)), .int (iZ (d (11 + k) (n : Int)))] 2 rfl dX2_fixturesInTime_33 (fun l => m_X2_sail l G ca ad _ μ1 b hb d hd1 k (d (11 + k) (n : Int)) ((sPos d k n).1) ((sPos d k n).2.1) ((sPos d k n).2.2) hN hP (by omega) (hB.2.2.1 _ (by omega)) (by omega) (hB.2.2.2 _ (by omega)) (by omega) (by omega) hI1 hI2 hI3) qM_X2_169 qI_X2_sail qS_X2_sail qi_X2 qC_X2_sail (by decide +kernel) (by decide) (by decide) (cl_desk hb) (cd_desk hb) rfl (Nat.le_of_ble_eq_true rfl) (zk_void (fun μ5 hμ5 => ?_)) rfl
        obtain ⟨hμ5f, hμ50, hμ51, hμ52, hμ53, hμ54, hμ55, hμ56, hμ57⟩ := id hμ5
        have hd6 : vw μ5 b = d := by rw [vw_fr5 hμ5f]; exact hd1
        refine z_aload_n hC dX2_fixturesInTime_36 rfl ?_
        refine z_get hC iA_X2 rfl 8 (by decide) qF_X2_33 rfl dX2_fixturesInTime_37 (cl_desk hb) (cd_desk hb) rfl ?_
        refine z_get hC iA_X1 rfl 7 (by decide) qF_X2_183 rfl dX2_fixturesInTime_40 (cl_course hb) (cd_course hb) rfl ?_
        refine z_top (b := sMarg d k (d (11 + k) (n : Int)) ((sPos d k n).1) ((sPos d k n).2.1)) (by rw [hμ57]) ?_
        refine z_if_ge hC 48 dX2_fixturesInTime_43 (by decide) (by omega) (fun c_7 => ?_) (fun c_7 => ?_)
        · refine z_iinc hC dX2_fixturesInTime_48 rfl (by decide) rfl ?_
          refine z_goto hC 17 dX2_fixturesInTime_51 (by decide) ?_
          refine z_weak (L' := [(3, .int (iZ ((n + 1 : Nat) : Int))), (0, .ref (ad b)), (2, .ref (ad (b + 6 + k)))]) ⟨rfl, rfl, rfl, trivial⟩ ?_
          exact ih (n + 1) (by omega) _ (zFo_s hI hμ5) (fun m hm => by
            rcases Nat.lt_or_ge m n with q | q
            · exact ht m q
            · have e : m = n := by omega
              rw [e]
              omega) (by rw [← hT, sTime_n (by omega)])
        · refine z_iload_n hC dX2_fixturesInTime_46 rfl ?_
          exact z_iret hC dX2_fixturesInTime_47 ⟨by rw [← hT, sTime_p (by omega)], (fun c9 hc9 => (hμ5f c9 hc9).trans (hI0 c9 hc9))⟩
  refine z_weak (L' := [(3, .int (iZ ((0 : Nat) : Int))), (0, .ref (ad b)), (2, .ref (ad (b + 6 + k)))]) ⟨rfl, rfl, rfl, trivial⟩ ?_
  exact LOOP (sNum d k) 0 (by omega) _ ⟨hμ1f, hμ10, hμ11, hμ16, fun m hm => absurd hm (by omega)⟩ (fun m hm => absurd hm (by omega)) rfl

set_option maxHeartbeats 4000000 in
set_option maxRecDepth 100000 in
/-- slackOf(ship k) -/
theorem m_X2_slackOf (l : Launch) (G : va_G) (ca : Nat → ClassId) (ad : Int → Nat) (A : Nat → Prop) (μ : zM) (b : Int) (hb : zb b) (d : zM) (hd : vw μ b = d) (k : Int) (hB : bD d) (hk : 0 ≤ k ∧ k < d 0 4) (hG : zGo d k (sNum d k)) : zMet l (cω G ca ad) A yX2_slackOf cX2_slackOf 7 (some .int) 2 66 [.ref (ad b), .int (iZ k)] μ (zpI (.int (iZ (sL d k (sNum d k)))) (fun μ' => ∀ c, c ≠ b + 5 → μ' c = μ c)) := by
  refine zMet_of (by decide) (Nat.le_of_ble_eq_true rfl) (fun Γ hC => ?_)
  show Z Γ _ μ 0 [(0, .ref (ad b)), (1, .int (iZ k))] []
  obtain ⟨hN, hP, hB3, hB4⟩ := id hB
  obtain ⟨hN1, hN2⟩ := id hN
  obtain ⟨hs0, hs1, hs2, hs3, hs4, hs6⟩ := hB3 k (by omega)
  have hNe := sNum_e (d := d) (k := k) (by omega)
  refine z_aload_n hC dX2_slackOf_0 rfl ?_
  refine z_get hC iA_X2 rfl 2 (by decide) qF_X2_20 rfl dX2_slackOf_1 (cl_desk hb) (cd_desk hb) rfl ?_
  refine z_iload_n hC dX2_slackOf_4 rfl ?_
  refine z_aald hC dX2_slackOf_5 2 rfl (cl_ships hb) (fun _ i => b + 6 + i) (cd_ships hb) (by omega) (by omega) (by decide) ?_
  refine z_astore_n hC dX2_slackOf_6 (by decide) rfl ?_
  refine z_ldc hC (-1000004) qc_X2_200 rfl dX2_slackOf_7 ?_
  refine z_istore_n hC dX2_slackOf_9 (by decide) rfl ?_
  refine z_iconst hC dX2_slackOf_10 ?_
  refine z_istore hC dX2_slackOf_11 (by decide) rfl ?_
  refine z_aload_n hC dX2_slackOf_13 rfl ?_
  refine z_get hC iA_X2 rfl 8 (by decide) qF_X2_33 rfl dX2_slackOf_14 (cl_desk hb) (cd_desk hb) rfl ?_
  refine z_aload_n hC dX2_slackOf_17 rfl ?_
  refine z_callV hC [.ref (ad (b + 6 + k))] 1 rfl dX2_slackOf_18 (fun l => m_X1_begin l G ca ad _ μ b hb d hd k (by omega)) qM_X2_166 qI_X1_begin qS_X1_begin qi_X1 qC_X1_begin (by decide +kernel) (by decide) (by decide) (cl_course hb) (cd_course hb) rfl (Nat.le_of_ble_eq_true rfl) (zk_void (fun μ1 hμ1 => ?_)) rfl
  obtain ⟨hμ1f, hμ10, hμ11, hμ16⟩ := id hμ1
  have hd2 : vw μ1 b = d := by rw [vw_fr5 hμ1f]; exact hd
  refine z_iconst hC dX2_slackOf_21 ?_
  refine z_istore hC dX2_slackOf_22 (by decide) rfl ?_
  have LOOP : ∀ (r n : Nat), n + r = sNum d k → ∀ μ1 : zM, zFo d b k n μ μ1 → Z Γ (cω G ca ad) μ1 24 [(5, .int (iZ (n : Int))), (4, .int (iZ (sW d k n))), (3, .int (iZ (sL d k n))), (0, .ref (ad b)), (2, .ref (ad (b + 6 + k)))] [] := by
    intro r
    induction r with
    | zero =>
      intro n hn μ1 hI
      obtain ⟨hI0, hI1, hI2, hI3, hI4⟩ := id hI
      have hd1 : vw μ1 b = d := by rw [vw_fr5 hI0]; exact hd
      refine z_iload hC dX2_slackOf_24 rfl ?_
      refine z_aload_n hC dX2_slackOf_26 rfl ?_
      refine z_get hC iA_X6 rfl 6 (by decide) qF_X2_126 rfl dX2_slackOf_27 (cl_ship hb (by omega)) (cd_ship hb (by omega)) rfl ?_
      refine z_top (b := d (6 + k) 6) ((vw_ship (by omega) (by omega)).symm.trans (congrFun (congrFun hd1 _) _)) ?_
      refine z_icmp_ge hC 100 dX2_slackOf_30 (by decide) (by omega) (by omega) (fun c_3 => ?_) (fun c_3 => ?_)
      · refine z_iload_n hC dX2_slackOf_100 rfl ?_
        obtain rfl : n = sNum d k := by omega
        exact z_iret hC dX2_slackOf_101 ⟨rfl, hI0⟩
      · exfalso; omega
    | succ r ih =>
      intro n hn μ1 hI
      obtain ⟨hI0, hI1, hI2, hI3, hI4⟩ := id hI
      have hd1 : vw μ1 b = d := by rw [vw_fr5 hI0]; exact hd
      have hg1 := hG.1 n (by omega)
      have hg2 := hG.2 n (by omega)
      have hm9 := sMarg_b (t := (sPos d k n).2.1) hP hs1 (hB4 _ hg1) hg2.1 (by omega)
      have hw9 := sWL_b hB hk hG n (by omega)
      refine z_iload hC dX2_slackOf_24 rfl ?_
      refine z_aload_n hC dX2_slackOf_26 rfl ?_
      refine z_get hC iA_X6 rfl 6 (by decide) qF_X2_126 rfl dX2_slackOf_27 (cl_ship hb (by omega)) (cd_ship hb (by omega)) rfl ?_
      refine z_top (b := d (6 + k) 6) ((vw_ship (by omega) (by omega)).symm.trans (congrFun (congrFun hd1 _) _)) ?_
      refine z_icmp_ge hC 100 dX2_slackOf_30 (by decide) (by omega) (by omega) (fun c_4 => ?_) (fun c_4 => ?_)
      · exfalso; omega
      · refine z_aload_n hC dX2_slackOf_33 rfl ?_
        refine z_aload_n hC dX2_slackOf_34 rfl ?_
        refine z_aload_n hC dX2_slackOf_35 rfl ?_
        refine z_get hC iA_X6 rfl 7 (by decide) qF_X2_129 rfl dX2_slackOf_36 (cl_ship hb (by omega)) (cd_ship hb (by omega)) rfl ?_
        refine z_iload hC dX2_slackOf_39 rfl ?_
        refine z_iald hC dX2_slackOf_41 (cl_fx hb (by omega)) (cd_fx hb (by omega)) (by omega) (by omega) (by decide) ?_
        refine z_top (b := d (11 + k) (n : Int)) ((vw_fx (by omega) (by omega)).symm.trans (congrFun (congrFun hd1 _) _)) ?_
        refine z_callV hC [.ref (ad (b + 6 + k)), .int (iZ (d (11 + k) (n : Int)))] 2 rfl dX2_slackOf_42 (fun l => m_X2_sail l G ca ad _ μ1 b hb d hd1 k (d (11 + k) (n : Int)) ((sPos d k n).1) ((sPos d k n).2.1) ((sPos d k n).2.2) hN hP (by omega) (hB.2.2.1 _ (by omega)) (by omega) (hB.2.2.2 _ (by omega)) (by omega) (by omega) hI1 hI2 hI3) qM_X2_169 qI_X2_sail qS_X2_sail qi_X2 qC_X2_sail (by decide +kernel) (by decide) (by decide) (cl_desk hb) (cd_desk hb) rfl (Nat.le_of_ble_eq_true rfl) (zk_void (fun μ5 hμ5 => ?_)) rfl
        obtain ⟨hμ5f, hμ50, hμ51, hμ52, hμ53, hμ54, hμ55, hμ56, hμ57⟩ := id hμ5
        have hd6 : vw μ5 b = d := by rw [vw_fr5 hμ5f]; exact hd1
        refine z_aload_n hC dX2_slackOf_45 rfl ?_
        refine z_get hC iA_X2 rfl 8 (by decide) qF_X2_33 rfl dX2_slackOf_46 (cl_desk hb) (cd_desk hb) rfl ?_
        refine z_get hC iA_X1 rfl 7 (by decide) qF_X2_183 rfl dX2_slackOf_49 (cl_course hb) (cd_course hb) rfl ?_
        refine z_top (b := sMarg d k (d (11 + k) (n : Int)) ((sPos d k n).1) ((sPos d k n).2.1)) (by rw [hμ57]) ?_
        refine z_iload hC dX2_slackOf_52 rfl ?_
        refine z_iadd hC dX2_slackOf_54 ?_
        refine z_istore hC dX2_slackOf_55 (by decide) rfl ?_
        refine z_iload hC dX2_slackOf_57 rfl ?_
        refine z_if_ne hC 67 dX2_slackOf_59 (by decide) (by omega) (fun c_7 => ?_) (fun c_7 => ?_)
        · refine z_iload_n hC dX2_slackOf_67 rfl ?_
          refine z_iload hC dX2_slackOf_68 rfl ?_
          refine z_min hC qM_X2_201 dX2_slackOf_70 (by omega) (by omega) (by decide) (Nat.le_of_ble_eq_true rfl) ?_
          refine z_top (b := sL d k (n + 1)) (sL_s (by omega)) ?_
          refine z_istore_n hC dX2_slackOf_73 (by decide) rfl ?_
          refine z_iload hC dX2_slackOf_74 rfl ?_
          refine z_aload_n hC dX2_slackOf_76 rfl ?_
          refine z_get hC iA_X2 rfl 8 (by decide) qF_X2_33 rfl dX2_slackOf_77 (cl_desk hb) (cd_desk hb) rfl ?_
          refine z_get hC iA_X1 rfl 3 (by decide) qF_X2_191 rfl dX2_slackOf_80 (cl_course hb) (cd_course hb) rfl ?_
          refine z_top (b := sLoad d k (d (11 + k) (n : Int)) ((sPos d k n).1) ((sPos d k n).2.1)) (by rw [hμ53]) ?_
          refine z_aload_n hC dX2_slackOf_83 rfl ?_
          refine z_get hC iA_X2 rfl 8 (by decide) qF_X2_33 rfl dX2_slackOf_84 (cl_desk hb) (cd_desk hb) rfl ?_
          refine z_get hC iA_X1 rfl 2 (by decide) qF_X2_180 rfl dX2_slackOf_87 (cl_course hb) (cd_course hb) rfl ?_
          refine z_top (b := sArr d k (d (11 + k) (n : Int)) ((sPos d k n).1) ((sPos d k n).2.1)) (by rw [hμ52]) ?_
          refine z_isub hC dX2_slackOf_90 ?_
          refine z_iadd hC dX2_slackOf_91 ?_
          refine z_top (b := sW d k (n + 1)) rfl ?_
          refine z_istore hC dX2_slackOf_92 (by decide) rfl ?_
          refine z_iinc hC dX2_slackOf_94 rfl (by decide) rfl ?_
          refine z_goto hC 24 dX2_slackOf_97 (by decide) ?_
          refine z_weak (L' := [(5, .int (iZ ((n + 1 : Nat) : Int))), (4, .int (iZ (sW d k (n + 1)))), (3, .int (iZ (sL d k (n + 1)))), (0, .ref (ad b)), (2, .ref (ad (b + 6 + k)))]) ⟨rfl, rfl, rfl, rfl, rfl, trivial⟩ ?_
          exact ih (n + 1) (by omega) _ (zFo_s hI hμ5)
        · refine z_iload hC dX2_slackOf_62 rfl ?_
          refine z_goto hC 73 dX2_slackOf_64 (by decide) ?_
          refine z_top (b := sL d k (n + 1)) (sL_f (by omega)) ?_
          refine z_istore_n hC dX2_slackOf_73 (by decide) rfl ?_
          refine z_iload hC dX2_slackOf_74 rfl ?_
          refine z_aload_n hC dX2_slackOf_76 rfl ?_
          refine z_get hC iA_X2 rfl 8 (by decide) qF_X2_33 rfl dX2_slackOf_77 (cl_desk hb) (cd_desk hb) rfl ?_
          refine z_get hC iA_X1 rfl 3 (by decide) qF_X2_191 rfl dX2_slackOf_80 (cl_course hb) (cd_course hb) rfl ?_
          refine z_top (b := sLoad d k (d (11 + k) (n : Int)) ((sPos d k n).1) ((sPos d k n).2.1)) (by rw [hμ53]) ?_
          refine z_aload_n hC dX2_slackOf_83 rfl ?_
          refine z_get hC iA_X2 rfl 8 (by decide) qF_X2_33 rfl dX2_slackOf_84 (cl_desk hb) (cd_desk hb) rfl ?_
          refine z_get hC iA_X1 rfl 2 (by decide) qF_X2_180 rfl dX2_slackOf_87 (cl_course hb) (cd_course hb) rfl ?_
          refine z_top (b := sArr d k (d (11 + k) (n : Int)) ((sPos d k n).1) ((sPos d k n).2.1)) (by rw [hμ52]) ?_
          refine z_isub hC dX2_slackOf_90 ?_
          refine z_iadd hC dX2_slackOf_91 ?_
          refine z_top (b := sW d k (n + 1)) rfl ?_
          refine z_istore hC dX2_slackOf_92 (by decide) rfl ?_
          refine z_iinc hC dX2_slackOf_94 rfl (by decide) rfl ?_
          refine z_goto hC 24 dX2_slackOf_97 (by decide) ?_
          refine z_weak (L' := [(5, .int (iZ ((n + 1 : Nat) : Int))), (4, .int (iZ (sW d k (n + 1)))), (3, .int (iZ (sL d k (n + 1)))), (0, .ref (ad b)), (2, .ref (ad (b + 6 + k)))]) ⟨rfl, rfl, rfl, rfl, rfl, trivial⟩ ?_
          exact ih (n + 1) (by omega) _ (zFo_s hI hμ5)
  refine z_weak (L' := [(5, .int (iZ ((0 : Nat) : Int))), (4, .int (iZ (sW d k 0))), (3, .int (iZ (sL d k 0))), (0, .ref (ad b)), (2, .ref (ad (b + 6 + k)))]) ⟨rfl, rfl, rfl, rfl, rfl, trivial⟩ ?_
  exact LOOP (sNum d k) 0 (by omega) _ ⟨hμ1f, hμ10, hμ11, hμ16, fun m hm => absurd hm (by omega)⟩

set_option maxHeartbeats 4000000 in
set_option maxRecDepth 100000 in
/-- cargoesThatAre(st) -/
theorem m_X2_cargoesThatAre (l : Launch) (G : va_G) (ca : Nat → ClassId) (ad : Int → Nat) (A : Nat → Prop) (μ : zM) (b : Int) (hb : zb b) (d : zM) (hd : vw μ b = d) (st : Int) (hst : -2147483648 ≤ st ∧ st ≤ 2147483647) (N : Nat) (hNN : (N : Int) = d 0 5) (hB : bD d) : zMet l (cω G ca ad) A yX2_cargoesThatAre cX2_cargoesThatAre 4 (some .int) 0 0 [.ref (ad b), .int (iZ st)] μ (zpI (.int (iZ (sCnt d st N))) (fun m => m = μ)) := by
  refine zMet_of (by decide) (Nat.le_of_ble_eq_true rfl) (fun Γ hC => ?_)
  show Z Γ _ μ 0 [(0, .ref (ad b)), (1, .int (iZ st))] []
  obtain ⟨hN, hP, hB3, hB4⟩ := id hB
  obtain ⟨hN1, hN2⟩ := id hN
  refine z_iconst hC dX2_cargoesThatAre_0 ?_
  refine z_istore_n hC dX2_cargoesThatAre_1 (by decide) rfl ?_
  refine z_iconst hC dX2_cargoesThatAre_2 ?_
  refine z_istore_n hC dX2_cargoesThatAre_3 (by decide) rfl ?_
  have LOOP : ∀ (r n : Nat), n + r = N → ∀ a : Int, a = sCnt d st n → Z Γ (cω G ca ad) μ 4 [(3, .int (iZ (n : Int))), (2, .int (iZ a)), (0, .ref (ad b)), (1, .int (iZ st))] [] := by
    intro r
    induction r with
    | zero =>
      intro n hn a ha
      refine z_iload_n hC dX2_cargoesThatAre_4 rfl ?_
      refine z_aload_n hC dX2_cargoesThatAre_5 rfl ?_
      refine z_get hC iA_X2 rfl 5 (by decide) qF_X2_56 rfl dX2_cargoesThatAre_6 (cl_desk hb) (cd_desk hb) rfl ?_
      refine z_top (b := d 0 5) ((vw_Cn).symm.trans (congrFun (congrFun hd _) _)) ?_
      refine z_icmp_ge hC 34 dX2_cargoesThatAre_9 (by decide) (by omega) (by omega) (fun c_1 => ?_) (fun c_1 => ?_)
      · refine z_iload_n hC dX2_cargoesThatAre_34 rfl ?_
        obtain rfl : n = N := by omega
        exact z_iret hC dX2_cargoesThatAre_35 ⟨by rw [ha], rfl⟩
      · exfalso; omega
    | succ r ih =>
      intro n hn a ha
      have hn9 : (n : Int) < d 0 5 := by omega
      obtain ⟨hc0, hc1, hc2, hc3, hc4, hc5, hc6⟩ := hB4 (n : Int) (by omega)
      refine z_iload_n hC dX2_cargoesThatAre_4 rfl ?_
      refine z_aload_n hC dX2_cargoesThatAre_5 rfl ?_
      refine z_get hC iA_X2 rfl 5 (by decide) qF_X2_56 rfl dX2_cargoesThatAre_6 (cl_desk hb) (cd_desk hb) rfl ?_
      refine z_top (b := d 0 5) ((vw_Cn).symm.trans (congrFun (congrFun hd _) _)) ?_
      refine z_icmp_ge hC 34 dX2_cargoesThatAre_9 (by decide) (by omega) (by omega) (fun c_2 => ?_) (fun c_2 => ?_)
      · exfalso; omega
      · refine z_aload_n hC dX2_cargoesThatAre_12 rfl ?_
        refine z_get hC iA_X2 rfl 3 (by decide) qF_X2_26 rfl dX2_cargoesThatAre_13 (cl_desk hb) (cd_desk hb) rfl ?_
        refine z_iload_n hC dX2_cargoesThatAre_16 rfl ?_
        refine z_aald hC dX2_cargoesThatAre_17 3 rfl (cl_cargoes hb) (fun _ i => b + 16 + i) (cd_cargoes hb) (by omega) (by omega) (by decide) ?_
        refine z_get hC iA_X0 rfl 6 (by decide) qF_X2_119 rfl dX2_cargoesThatAre_18 (cl_cargo hb (by omega)) (cd_cargo hb (by omega)) rfl ?_
        refine z_top (b := d (16 + (n : Int)) 6) ((vw_cargo (by omega) (by omega)).symm.trans (congrFun (congrFun hd _) _)) ?_
        refine z_iload_n hC dX2_cargoesThatAre_21 rfl ?_
        refine z_icmp_ne hC 28 dX2_cargoesThatAre_22 (by decide) (by omega) (by omega) (fun c_3 => ?_) (fun c_3 => ?_)
        · refine z_iinc hC dX2_cargoesThatAre_28 rfl (by decide) rfl ?_
          refine z_goto hC 4 dX2_cargoesThatAre_31 (by decide) ?_
          refine z_weak (L' := [(3, .int (iZ ((n + 1 : Nat) : Int))), (2, .int (iZ (a))), (0, .ref (ad b)), (1, .int (iZ st))]) ⟨rfl, rfl, rfl, rfl, trivial⟩ ?_
          exact ih (n + 1) (by omega) _ (by unfold sCnt; split <;> omega)
        · refine z_iinc hC dX2_cargoesThatAre_25 rfl (by decide) rfl ?_
          refine z_iinc hC dX2_cargoesThatAre_28 rfl (by decide) rfl ?_
          refine z_goto hC 4 dX2_cargoesThatAre_31 (by decide) ?_
          refine z_weak (L' := [(3, .int (iZ ((n + 1 : Nat) : Int))), (2, .int (iZ (a + 1))), (0, .ref (ad b)), (1, .int (iZ st))]) ⟨rfl, rfl, rfl, rfl, trivial⟩ ?_
          exact ih (n + 1) (by omega) _ (by unfold sCnt; split <;> omega)
  refine z_weak (L' := [(3, .int (iZ ((0 : Nat) : Int))), (2, .int (iZ 0)), (0, .ref (ad b)), (1, .int (iZ st))]) ⟨rfl, rfl, rfl, rfl, trivial⟩ ?_
  exact LOOP N 0 (by omega) _ rfl

set_option maxHeartbeats 4000000 in
set_option maxRecDepth 100000 in
/-- accountsTogether() -/
theorem m_X2_accountsTogether (l : Launch) (G : va_G) (ca : Nat → ClassId) (ad : Int → Nat) (A : Nat → Prop) (μ : zM) (b : Int) (hb : zb b) (d : zM) (hd : vw μ b = d) (N : Nat) (hNN : (N : Int) = d 0 4) (hB : bD d) : zMet l (cω G ca ad) A yX2_accountsTogether cX2_accountsTogether 3 (some .int) 0 0 [.ref (ad b)] μ (zpI (.int (iZ (sAcc d N))) (fun m => m = μ)) := by
  refine zMet_of (by decide) (Nat.le_of_ble_eq_true rfl) (fun Γ hC => ?_)
  show Z Γ _ μ 0 [(0, .ref (ad b))] []
  obtain ⟨hN, hP, hB3, hB4⟩ := id hB
  obtain ⟨hN1, hN2⟩ := id hN
  refine z_iconst hC dX2_accountsTogether_0 ?_
  refine z_istore_n hC dX2_accountsTogether_1 (by decide) rfl ?_
  refine z_iconst hC dX2_accountsTogether_2 ?_
  refine z_istore_n hC dX2_accountsTogether_3 (by decide) rfl ?_
  have LOOP : ∀ (r n : Nat), n + r = N → ∀ a : Int, a = sAcc d n → Z Γ (cω G ca ad) μ 4 [(2, .int (iZ (n : Int))), (1, .int (iZ a)), (0, .ref (ad b))] [] := by
    intro r
    induction r with
    | zero =>
      intro n hn a ha
      refine z_iload_n hC dX2_accountsTogether_4 rfl ?_
      refine z_aload_n hC dX2_accountsTogether_5 rfl ?_
      refine z_get hC iA_X2 rfl 4 (by decide) qF_X2_52 rfl dX2_accountsTogether_6 (cl_desk hb) (cd_desk hb) rfl ?_
      refine z_top (b := d 0 4) ((vw_S).symm.trans (congrFun (congrFun hd _) _)) ?_
      refine z_icmp_ge hC 30 dX2_accountsTogether_9 (by decide) (by omega) (by omega) (fun c_1 => ?_) (fun c_1 => ?_)
      · refine z_iload_n hC dX2_accountsTogether_30 rfl ?_
        obtain rfl : n = N := by omega
        exact z_iret hC dX2_accountsTogether_31 ⟨by rw [ha], rfl⟩
      · exfalso; omega
    | succ r ih =>
      intro n hn a ha
      have hn9 : (n : Int) < d 0 4 := by omega
      refine z_iload_n hC dX2_accountsTogether_4 rfl ?_
      refine z_aload_n hC dX2_accountsTogether_5 rfl ?_
      refine z_get hC iA_X2 rfl 4 (by decide) qF_X2_52 rfl dX2_accountsTogether_6 (cl_desk hb) (cd_desk hb) rfl ?_
      refine z_top (b := d 0 4) ((vw_S).symm.trans (congrFun (congrFun hd _) _)) ?_
      refine z_icmp_ge hC 30 dX2_accountsTogether_9 (by decide) (by omega) (by omega) (fun c_2 => ?_) (fun c_2 => ?_)
      · exfalso; omega
      · refine z_iload_n hC dX2_accountsTogether_12 rfl ?_
        refine z_aload_n hC dX2_accountsTogether_13 rfl ?_
        refine z_get hC iA_X2 rfl 2 (by decide) qF_X2_20 rfl dX2_accountsTogether_14 (cl_desk hb) (cd_desk hb) rfl ?_
        refine z_iload_n hC dX2_accountsTogether_17 rfl ?_
        refine z_aald hC dX2_accountsTogether_18 2 rfl (cl_ships hb) (fun _ i => b + 6 + i) (cd_ships hb) (by omega) (by omega) (by decide) ?_
        refine z_get hC iA_X6 rfl 5 (by decide) qF_X2_152 rfl dX2_accountsTogether_19 (cl_ship hb (by omega)) (cd_ship hb (by omega)) rfl ?_
        refine z_top (b := d (6 + (n : Int)) 5) ((vw_ship (by omega) (by omega)).symm.trans (congrFun (congrFun hd _) _)) ?_
        refine z_iadd hC dX2_accountsTogether_22 ?_
        refine z_istore_n hC dX2_accountsTogether_23 (by decide) rfl ?_
        refine z_iinc hC dX2_accountsTogether_24 rfl (by decide) rfl ?_
        refine z_goto hC 4 dX2_accountsTogether_27 (by decide) ?_
        refine z_weak (L' := [(2, .int (iZ ((n + 1 : Nat) : Int))), (1, .int (iZ (a + (d (6 + (n : Int)) 5)))), (0, .ref (ad b))]) ⟨rfl, rfl, rfl, trivial⟩ ?_
        exact ih (n + 1) (by omega) _ (by unfold sAcc; rw [ha])
  refine z_weak (L' := [(2, .int (iZ ((0 : Nat) : Int))), (1, .int (iZ 0)), (0, .ref (ad b))]) ⟨rfl, rfl, rfl, trivial⟩ ?_
  exact LOOP N 0 (by omega) _ rfl
end
section
set_option maxHeartbeats 4000000 in
set_option maxRecDepth 100000 in
/-- choose(k0, k1, c0, c1) -/
theorem m_X2_choose (l : Launch) (G : va_G) (ca : Nat → ClassId) (ad : Int → Nat) (A : Nat → Prop) (μ : zM) (b : Int) (hb : zb b) (d : zM) (hd : vw μ b = d) (k0 k1 c0 c1 : Int) (nk m : Nat) (hB : bD d) (hG : ∀ k, 0 ≤ k ∧ k < d 0 4 → zGo d k (sNum d k)) (hk0 : 0 ≤ k0) (hk1 : k1 = k0 + (nk : Int)) (hk2 : k1 ≤ d 0 4) (hc0 : 0 ≤ c0) (hc1 : c1 = c0 + (m : Int)) (hc2 : c1 ≤ d 0 5) : zMet l (cω G ca ad) A yX2_choose cX2_choose 8 (some .boolean) 4 112 [.ref (ad b), .int (iZ k0), .int (iZ k1), .int (iZ c0), .int (iZ c1)] μ (zpI (.int (iZ (zB ((sAll d k0 c0 m nk (0, μ b 9, μ b 10, μ b 11)).1 = 1)))) (fun μ' => zF2 μ b μ' ∧ μ' b 9 = (sAll d k0 c0 m nk (0, μ b 9, μ b 10, μ b 11)).2.1 ∧ μ' b 10 = (sAll d k0 c0 m nk (0, μ b 9, μ b 10, μ b 11)).2.2.1 ∧ μ' b 11 = (sAll d k0 c0 m nk (0, μ b 9, μ b 10, μ b 11)).2.2.2)) := by
  refine zMet_of (by decide) (Nat.le_of_ble_eq_true rfl) (fun Γ hC => ?_)
  show Z Γ _ μ 0 [(0, .ref (ad b)), (1, .int (iZ k0)), (2, .int (iZ k1)), (3, .int (iZ c0)), (4, .int (iZ c1))] []
  obtain ⟨hN, hP, hB3, hB4⟩ := id hB
  obtain ⟨hN1, hN2⟩ := id hN
  refine z_iconst hC dX2_choose_0 ?_
  refine z_istore hC dX2_choose_1 (by decide) rfl ?_
  refine z_iload_n hC dX2_choose_3 rfl ?_
  refine z_istore hC dX2_choose_4 (by decide) rfl ?_
  have LOOP : ∀ (r n : Nat), n + r = nk → ∀ (μ1 : zM) (x : Int), x = k0 + (n : Int) → zF2 μ b μ1 → μ1 b 9 = (sAll d k0 c0 m n (0, μ b 9, μ b 10, μ b 11)).2.1 → μ1 b 10 = (sAll d k0 c0 m n (0, μ b 9, μ b 10, μ b 11)).2.2.1 → μ1 b 11 = (sAll d k0 c0 m n (0, μ b 9, μ b 10, μ b 11)).2.2.2 → Z Γ (cω G ca ad) μ1 6 [(6, .int (iZ x)), (5, .int (iZ (sAll d k0 c0 m n (0, μ b 9, μ b 10, μ b 11)).1)), (0, .ref (ad b)), (2, .int (iZ k1)), (3, .int (iZ c0)), (4, .int (iZ c1))] [] := by
    intro r
    induction r with
    | zero =>
      intro n hn μ1 x hx hF1 hp9 hp10 hp11
      have hd1 : vw μ1 b = d := by rw [vw_f2 hF1]; exact hd
      refine z_iload hC dX2_choose_6 rfl ?_
      refine z_iload_n hC dX2_choose_8 rfl ?_
      refine z_icmp_ge hC 106 dX2_choose_9 (by decide) (by omega) (by omega) (fun c_1 => ?_) (fun c_1 => ?_)
      · refine z_iload hC dX2_choose_106 rfl ?_
        obtain rfl : n = nk := by omega
        refine z_top (b := zB ((sAll d k0 c0 m n (0, μ b 9, μ b 10, μ b 11)).1 = 1)) ?_ ?_
        · rcases sAll_01 (d := d) (k := k0) (c := c0) (m := m) (q := (0, μ b 9, μ b 10, μ b 11)) (Or.inl rfl) n with q9 | q9
          · rw [q9]; rfl
          · rw [q9]; rfl
        · exact z_zret hC dX2_choose_108 ⟨rfl, hF1, hp9, hp10, hp11⟩
      · exfalso; omega
    | succ r ih =>
      intro n hn μ1 x hx hF1 hp9 hp10 hp11
      have hd1 : vw μ1 b = d := by rw [vw_f2 hF1]; exact hd
      have hkx : 0 ≤ x ∧ x < d 0 4 := by omega
      refine z_iload hC dX2_choose_6 rfl ?_
      refine z_iload_n hC dX2_choose_8 rfl ?_
      refine z_icmp_ge hC 106 dX2_choose_9 (by decide) (by omega) (by omega) (fun c_2 => ?_) (fun c_2 => ?_)
      · exfalso; omega
      · refine z_iload_n hC dX2_choose_12 rfl ?_
        refine z_istore hC dX2_choose_13 (by decide) rfl ?_
        have LOOP2 : ∀ (r2 n2 : Nat), n2 + r2 = m → ∀ (μ2 : zM) (y : Int), y = c0 + (n2 : Int) → zF2 μ b μ2 → μ2 b 9 = (sRow d x c0 n2 (sAll d k0 c0 m n (0, μ b 9, μ b 10, μ b 11))).2.1 → μ2 b 10 = (sRow d x c0 n2 (sAll d k0 c0 m n (0, μ b 9, μ b 10, μ b 11))).2.2.1 → μ2 b 11 = (sRow d x c0 n2 (sAll d k0 c0 m n (0, μ b 9, μ b 10, μ b 11))).2.2.2 → Z Γ (cω G ca ad) μ2 15 [(7, .int (iZ y)), (5, .int (iZ (sRow d x c0 n2 (sAll d k0 c0 m n (0, μ b 9, μ b 10, μ b 11))).1)), (6, .int (iZ x)), (0, .ref (ad b)), (2, .int (iZ k1)), (3, .int (iZ c0)), (4, .int (iZ c1))] [] := by
          intro r2
          induction r2 with
          | zero =>
            intro n2 hn2 μ2 y hy hF2 hr9 hr10 hr11
            have hd2 : vw μ2 b = d := by rw [vw_f2 hF2]; exact hd
            refine z_iload hC dX2_choose_15 rfl ?_
            refine z_iload hC dX2_choose_17 rfl ?_
            refine z_icmp_ge hC 100 dX2_choose_19 (by decide) (by omega) (by omega) (fun c_3 => ?_) (fun c_3 => ?_)
            · refine z_iinc hC dX2_choose_100 rfl (by decide) rfl ?_
              refine z_goto hC 6 dX2_choose_103 (by decide) ?_
              obtain rfl : n2 = m := by omega
              have eA : (sAll d k0 c0 n2 (n + 1) (0, μ b 9, μ b 10, μ b 11)) = (sRow d x c0 n2 (sAll d k0 c0 n2 n (0, μ b 9, μ b 10, μ b 11))) := by rw [hx]; rfl
              have K := ih (n + 1) (by omega) _ (x + 1) (by omega) hF2 (by rw [eA]; exact hr9) (by rw [eA]; exact hr10) (by rw [eA]; exact hr11)
              rw [eA] at K
              refine z_weak (L' := [(6, .int (iZ (x + 1))), (5, .int (iZ (sRow d x c0 n2 (sAll d k0 c0 n2 n (0, μ b 9, μ b 10, μ b 11))).1)), (0, .ref (ad b)), (2, .int (iZ k1)), (3, .int (iZ c0)), (4, .int (iZ c1))]) ⟨rfl, rfl, rfl, rfl, rfl, rfl, trivial⟩ ?_
              exact K
            · exfalso; omega
          | succ r2 ih2 =>
            intro n2 hn2 μ2 y hy hF2 hr9 hr10 hr11
            have hd2 : vw μ2 b = d := by rw [vw_f2 hF2]; exact hd
            obtain ⟨hq0, hq1, hq2, hq3, hq4, hq5, hq6⟩ := hB4 y (by omega)
            have hcb := sCould_b d x y
            have heb : -300000 ≤ sEarn d x y (sEnd d x).1 (sEnd d x).2.1 ∧ sEarn d x y (sEnd d x).1 (sEnd d x).2.1 ≤ 9801 := sEa_b hB hkx (by omega) (hG x hkx)
            have h01 := sRow_01 (d := d) (k := x) (c := c0) (sAll_01 (d := d) (k := k0) (c := c0) (m := m) (q := (0, μ b 9, μ b 10, μ b 11)) (Or.inl rfl) n) n2
            have hqb := sRow_b (c := c0) hB hkx hc0 (hG x hkx) (sAll_b (k := k0) (c := c0) (m := m) (q := (0, μ b 9, μ b 10, μ b 11)) hB hk0 hc0 (by omega) hG (Or.inr rfl) n (by omega)) n2 (by omega)
            refine z_iload hC dX2_choose_15 rfl ?_
            refine z_iload hC dX2_choose_17 rfl ?_
            refine z_icmp_ge hC 100 dX2_choose_19 (by decide) (by omega) (by omega) (fun c_4 => ?_) (fun c_4 => ?_)
            · exfalso; omega
            · refine z_aload_n hC dX2_choose_22 rfl ?_
              refine z_get hC iA_X2 rfl 3 (by decide) qF_X2_26 rfl dX2_choose_23 (cl_desk hb) (cd_desk hb) rfl ?_
              refine z_iload hC dX2_choose_26 rfl ?_
              refine z_aald hC dX2_choose_28 3 rfl (cl_cargoes hb) (fun _ i => b + 16 + i) (cd_cargoes hb) (by omega) (by omega) (by decide) ?_
              refine z_get hC iA_X0 rfl 6 (by decide) qF_X2_119 rfl dX2_choose_29 (cl_cargo hb (by omega)) (cd_cargo hb (by omega)) rfl ?_
              refine z_top (b := d (16 + y) 6) ((vw_cargo (by omega) (by omega)).symm.trans (congrFun (congrFun hd2 _) _)) ?_
              refine z_if_ne hC 94 dX2_choose_32 (by decide) (by omega) (fun c_5 => ?_) (fun c_5 => ?_)
              · refine z_iinc hC dX2_choose_94 rfl (by decide) rfl ?_
                refine z_goto hC 15 dX2_choose_97 (by decide) ?_
                have e9 : sRow d x c0 (n2 + 1) (sAll d k0 c0 m n (0, μ b 9, μ b 10, μ b 11)) = (sRow d x c0 n2 (sAll d k0 c0 m n (0, μ b 9, μ b 10, μ b 11))) := by show sStep d x (c0 + (n2 : Int)) _ = _; rw [← hy]; exact sStep_n (by unfold sEa; omega)
                have K := ih2 (n2 + 1) (by omega) μ2 (y + 1) (by omega) (hF2) (by rw [e9]; exact hr9) (by rw [e9]; exact hr10) (by rw [e9]; exact hr11)
                rw [e9] at K
                refine z_weak (L' := [(7, .int (iZ (y + 1))), (5, .int (iZ (sRow d x c0 n2 (sAll d k0 c0 m n (0, μ b 9, μ b 10, μ b 11))).1)), (6, .int (iZ x)), (0, .ref (ad b)), (2, .int (iZ k1)), (3, .int (iZ c0)), (4, .int (iZ c1))]) ⟨rfl, rfl, rfl, rfl, rfl, rfl, rfl, trivial⟩ ?_
                exact K
              · refine z_aload_n hC dX2_choose_35 rfl ?_
                refine z_iload hC dX2_choose_36 rfl ?_
                refine z_iload hC dX2_choose_38 rfl ?_
                refine z_callV hC [.int (iZ x), .int (iZ y)] 2 rfl dX2_choose_40 (fun l => m_X2_hindrance l G ca ad _ μ2 b hb d hd2 x y hB (by omega) (by omega) (hG _ (by omega))) qM_X2_122 qI_X2_hindrance qS_X2_hindrance qi_X2 qC_X2_hindrance (by decide +kernel) (by decide) (by decide) (cl_desk hb) (cd_desk hb) rfl (Nat.le_of_ble_eq_true rfl) (zk_int (fun μ6 hμ6 => ?_)) rfl
                obtain ⟨hμ6f, hμ60, hμ61, hμ62, hμ63, hμ64, hμ65, hμ66, hμ67⟩ := id hμ6
                have hd7 : vw μ6 b = d := by rw [vw_fr5 hμ6f]; exact hd2
                refine z_if_eq hC 49 dX2_choose_43 (by decide) (by omega) (fun c_8 => ?_) (fun c_8 => ?_)
                · refine z_iload hC dX2_choose_49 rfl ?_
                  refine z_if_eq hC 68 dX2_choose_51 (by decide) (by omega) (fun c_9 => ?_) (fun c_9 => ?_)
                  · refine z_iconst hC dX2_choose_68 ?_
                    refine z_istore hC dX2_choose_69 (by decide) rfl ?_
                    refine z_aload_n hC dX2_choose_71 rfl ?_
                    refine z_iload hC dX2_choose_72 rfl ?_
                    refine z_put hC iA_X2 rfl tyX2 tyX2_ok nmX2 9 (by decide) rfl rfl 9 rfl qF_X2_207 rfl dX2_choose_74 (cl_desk hb) (cd_desk hb) (fun _ => rfl) (fun _ => Nat.le_of_ble_eq_true rfl) ?_
                    refine z_nm (fun μ10 hμ10 => ?_)
                    have hd11 : vw μ10 b = d := by rw [hμ10, vw_ch (by omega)]; exact hd7
                    refine z_aload_n hC dX2_choose_77 rfl ?_
                    refine z_iload hC dX2_choose_78 rfl ?_
                    refine z_put hC iA_X2 rfl tyX2 tyX2_ok nmX2 10 (by decide) rfl rfl 10 rfl qF_X2_210 rfl dX2_choose_80 (cl_desk hb) (cd_desk hb) (fun _ => rfl) (fun _ => Nat.le_of_ble_eq_true rfl) ?_
                    refine z_nm (fun μ12 hμ12 => ?_)
                    have hd13 : vw μ12 b = d := by rw [hμ12, vw_ch (by omega)]; exact hd11
                    refine z_aload_n hC dX2_choose_83 rfl ?_
                    refine z_aload_n hC dX2_choose_84 rfl ?_
                    refine z_get hC iA_X2 rfl 8 (by decide) qF_X2_33 rfl dX2_choose_85 (cl_desk hb) (cd_desk hb) rfl ?_
                    refine z_get hC iA_X1 rfl 5 (by decide) qF_X2_197 rfl dX2_choose_88 (cl_course hb) (cd_course hb) rfl ?_
                    refine z_top (b := sEarn d x y (sEnd d x).1 (sEnd d x).2.1) (by rw [hμ12, zup_n (by omega), hμ10, zup_n (by omega), hμ65]) ?_
                    refine z_put hC iA_X2 rfl tyX2 tyX2_ok nmX2 11 (by decide) rfl rfl 11 rfl qF_X2_204 rfl dX2_choose_91 (cl_desk hb) (cd_desk hb) (fun _ => rfl) (fun _ => Nat.le_of_ble_eq_true rfl) ?_
                    refine z_nm (fun μ14 hμ14 => ?_)
                    have hd15 : vw μ14 b = d := by rw [hμ14, vw_ch (by omega)]; exact hd13
                    refine z_iinc hC dX2_choose_94 rfl (by decide) rfl ?_
                    refine z_goto hC 15 dX2_choose_97 (by decide) ?_
                    have hFn : zF2 μ b μ14 := by rw [hμ14, hμ12, hμ10]; exact zF2_up (by omega) (zF2_up (by omega) (zF2_up (by omega) (zF2_co hF2 hμ6f)))
                    have e9 : sRow d x c0 (n2 + 1) (sAll d k0 c0 m n (0, μ b 9, μ b 10, μ b 11)) = (1, x, y, sEa d x y) := by show sStep d x (c0 + (n2 : Int)) _ = _; rw [← hy]; exact sStep_p (by unfold sEa; omega)
                    have K := ih2 (n2 + 1) (by omega) μ14 (y + 1) (by omega) hFn (by rw [e9, hμ14, zup_n (by omega), hμ12, zup_n (by omega), hμ10, zup_s]) (by rw [e9, hμ14, zup_n (by omega), hμ12, zup_s]) (by rw [e9, hμ14, zup_s]; rfl)
                    rw [e9] at K
                    dsimp only at K
                    refine z_weak (L' := [(7, .int (iZ (y + 1))), (5, .int (iZ 1)), (6, .int (iZ x)), (0, .ref (ad b)), (2, .int (iZ k1)), (3, .int (iZ c0)), (4, .int (iZ c1))]) ⟨rfl, rfl, rfl, rfl, rfl, rfl, rfl, trivial⟩ ?_
                    exact K
                  · refine z_aload_n hC dX2_choose_54 rfl ?_
                    refine z_get hC iA_X2 rfl 8 (by decide) qF_X2_33 rfl dX2_choose_55 (cl_desk hb) (cd_desk hb) rfl ?_
                    refine z_get hC iA_X1 rfl 5 (by decide) qF_X2_197 rfl dX2_choose_58 (cl_course hb) (cd_course hb) rfl ?_
                    refine z_top (b := sEarn d x y (sEnd d x).1 (sEnd d x).2.1) (by rw [hμ65]) ?_
                    refine z_aload_n hC dX2_choose_61 rfl ?_
                    refine z_get hC iA_X2 rfl 11 (by decide) qF_X2_204 rfl dX2_choose_62 (cl_desk hb) (cd_desk hb) rfl ?_
                    refine z_top (b := (sRow d x c0 n2 (sAll d k0 c0 m n (0, μ b 9, μ b 10, μ b 11))).2.2.2) (by rw [hμ6f b (by omega), hr11]) ?_
                    refine z_icmp_le hC 94 dX2_choose_65 (by decide) (by omega) (by omega) (fun c_16 => ?_) (fun c_16 => ?_)
                    · refine z_iinc hC dX2_choose_94 rfl (by decide) rfl ?_
                      refine z_goto hC 15 dX2_choose_97 (by decide) ?_
                      have e9 : sRow d x c0 (n2 + 1) (sAll d k0 c0 m n (0, μ b 9, μ b 10, μ b 11)) = (sRow d x c0 n2 (sAll d k0 c0 m n (0, μ b 9, μ b 10, μ b 11))) := by show sStep d x (c0 + (n2 : Int)) _ = _; rw [← hy]; exact sStep_n (by unfold sEa; omega)
                      have K := ih2 (n2 + 1) (by omega) μ6 (y + 1) (by omega) (zF2_co hF2 hμ6f) (by rw [e9, hμ6f b (by omega)]; exact hr9) (by rw [e9, hμ6f b (by omega)]; exact hr10) (by rw [e9, hμ6f b (by omega)]; exact hr11)
                      rw [e9] at K
                      refine z_weak (L' := [(7, .int (iZ (y + 1))), (5, .int (iZ (sRow d x c0 n2 (sAll d k0 c0 m n (0, μ b 9, μ b 10, μ b 11))).1)), (6, .int (iZ x)), (0, .ref (ad b)), (2, .int (iZ k1)), (3, .int (iZ c0)), (4, .int (iZ c1))]) ⟨rfl, rfl, rfl, rfl, rfl, rfl, rfl, trivial⟩ ?_
                      exact K
                    · refine z_iconst hC dX2_choose_68 ?_
                      refine z_istore hC dX2_choose_69 (by decide) rfl ?_
                      refine z_aload_n hC dX2_choose_71 rfl ?_
                      refine z_iload hC dX2_choose_72 rfl ?_
                      refine z_put hC iA_X2 rfl tyX2 tyX2_ok nmX2 9 (by decide) rfl rfl 9 rfl qF_X2_207 rfl dX2_choose_74 (cl_desk hb) (cd_desk hb) (fun _ => rfl) (fun _ => Nat.le_of_ble_eq_true rfl) ?_
                      refine z_nm (fun μ17 hμ17 => ?_)
                      have hd18 : vw μ17 b = d := by rw [hμ17, vw_ch (by omega)]; exact hd7
                      refine z_aload_n hC dX2_choose_77 rfl ?_
                      refine z_iload hC dX2_choose_78 rfl ?_
                      refine z_put hC iA_X2 rfl tyX2 tyX2_ok nmX2 10 (by decide) rfl rfl 10 rfl qF_X2_210 rfl dX2_choose_80 (cl_desk hb) (cd_desk hb) (fun _ => rfl) (fun _ => Nat.le_of_ble_eq_true rfl) ?_
                      refine z_nm (fun μ19 hμ19 => ?_)
                      have hd20 : vw μ19 b = d := by rw [hμ19, vw_ch (by omega)]; exact hd18
                      refine z_aload_n hC dX2_choose_83 rfl ?_
                      refine z_aload_n hC dX2_choose_84 rfl ?_
                      refine z_get hC iA_X2 rfl 8 (by decide) qF_X2_33 rfl dX2_choose_85 (cl_desk hb) (cd_desk hb) rfl ?_
                      refine z_get hC iA_X1 rfl 5 (by decide) qF_X2_197 rfl dX2_choose_88 (cl_course hb) (cd_course hb) rfl ?_
                      refine z_top (b := sEarn d x y (sEnd d x).1 (sEnd d x).2.1) (by rw [hμ19, zup_n (by omega), hμ17, zup_n (by omega), hμ65]) ?_
                      refine z_put hC iA_X2 rfl tyX2 tyX2_ok nmX2 11 (by decide) rfl rfl 11 rfl qF_X2_204 rfl dX2_choose_91 (cl_desk hb) (cd_desk hb) (fun _ => rfl) (fun _ => Nat.le_of_ble_eq_true rfl) ?_
                      refine z_nm (fun μ21 hμ21 => ?_)
                      have hd22 : vw μ21 b = d := by rw [hμ21, vw_ch (by omega)]; exact hd20
                      refine z_iinc hC dX2_choose_94 rfl (by decide) rfl ?_
                      refine z_goto hC 15 dX2_choose_97 (by decide) ?_
                      have hFn : zF2 μ b μ21 := by rw [hμ21, hμ19, hμ17]; exact zF2_up (by omega) (zF2_up (by omega) (zF2_up (by omega) (zF2_co hF2 hμ6f)))
                      have e9 : sRow d x c0 (n2 + 1) (sAll d k0 c0 m n (0, μ b 9, μ b 10, μ b 11)) = (1, x, y, sEa d x y) := by show sStep d x (c0 + (n2 : Int)) _ = _; rw [← hy]; exact sStep_p (by unfold sEa; omega)
                      have K := ih2 (n2 + 1) (by omega) μ21 (y + 1) (by omega) hFn (by rw [e9, hμ21, zup_n (by omega), hμ19, zup_n (by omega), hμ17, zup_s]) (by rw [e9, hμ21, zup_n (by omega), hμ19, zup_s]) (by rw [e9, hμ21, zup_s]; rfl)
                      rw [e9] at K
                      dsimp only at K
                      refine z_weak (L' := [(7, .int (iZ (y + 1))), (5, .int (iZ 1)), (6, .int (iZ x)), (0, .ref (ad b)), (2, .int (iZ k1)), (3, .int (iZ c0)), (4, .int (iZ c1))]) ⟨rfl, rfl, rfl, rfl, rfl, rfl, rfl, trivial⟩ ?_
                      exact K
                · refine z_goto hC 94 dX2_choose_46 (by decide) ?_
                  refine z_iinc hC dX2_choose_94 rfl (by decide) rfl ?_
                  refine z_goto hC 15 dX2_choose_97 (by decide) ?_
                  have e9 : sRow d x c0 (n2 + 1) (sAll d k0 c0 m n (0, μ b 9, μ b 10, μ b 11)) = (sRow d x c0 n2 (sAll d k0 c0 m n (0, μ b 9, μ b 10, μ b 11))) := by show sStep d x (c0 + (n2 : Int)) _ = _; rw [← hy]; exact sStep_n (by unfold sEa; omega)
                  have K := ih2 (n2 + 1) (by omega) μ6 (y + 1) (by omega) (zF2_co hF2 hμ6f) (by rw [e9, hμ6f b (by omega)]; exact hr9) (by rw [e9, hμ6f b (by omega)]; exact hr10) (by rw [e9, hμ6f b (by omega)]; exact hr11)
                  rw [e9] at K
                  refine z_weak (L' := [(7, .int (iZ (y + 1))), (5, .int (iZ (sRow d x c0 n2 (sAll d k0 c0 m n (0, μ b 9, μ b 10, μ b 11))).1)), (6, .int (iZ x)), (0, .ref (ad b)), (2, .int (iZ k1)), (3, .int (iZ c0)), (4, .int (iZ c1))]) ⟨rfl, rfl, rfl, rfl, rfl, rfl, rfl, trivial⟩ ?_
                  exact K
        refine z_weak (L' := [(7, .int (iZ c0)), (5, .int (iZ (sRow d x c0 0 (sAll d k0 c0 m n (0, μ b 9, μ b 10, μ b 11))).1)), (6, .int (iZ x)), (0, .ref (ad b)), (2, .int (iZ k1)), (3, .int (iZ c0)), (4, .int (iZ c1))]) ⟨rfl, rfl, rfl, rfl, rfl, rfl, rfl, trivial⟩ ?_
        exact LOOP2 m 0 (by omega) _ _ (by omega) hF1 hp9 hp10 hp11
  refine z_weak (L' := [(6, .int (iZ k0)), (5, .int (iZ (sAll d k0 c0 m 0 (0, μ b 9, μ b 10, μ b 11)).1)), (0, .ref (ad b)), (2, .int (iZ k1)), (3, .int (iZ c0)), (4, .int (iZ c1))]) ⟨rfl, rfl, rfl, rfl, rfl, rfl, trivial⟩ ?_
  exact LOOP nk 0 (by omega) _ _ (by omega) (fun _ _ _ _ => rfl) rfl rfl rfl

set_option maxHeartbeats 4000000 in
set_option maxRecDepth 100000 in
/-- openCargoes() -/
theorem m_X2_openCargoes (l : Launch) (G : va_G) (ca : Nat → ClassId) (ad : Int → Nat) (A : Nat → Prop) (μ : zM) (b : Int) (hb : zb b) (d : zM) (hd : vw μ b = d) (N : Nat) (hNN : (N : Int) = d 0 5) (hB : bD d) : zMet l (cω G ca ad) A yX2_openCargoes cX2_openCargoes 3 (some .int) 0 0 [.ref (ad b)] μ (zpI (.int (sOpen d N)) (fun m => m = μ)) := by
  refine zMet_of (by decide) (Nat.le_of_ble_eq_true rfl) (fun Γ hC => ?_)
  show Z Γ _ μ 0 [(0, .ref (ad b))] []
  obtain ⟨hN, hP, hB3, hB4⟩ := id hB
  obtain ⟨hN1, hN2⟩ := id hN
  refine z_iconst hC dX2_openCargoes_0 ?_
  refine z_istore_n hC dX2_openCargoes_1 (by decide) rfl ?_
  refine z_iconst hC dX2_openCargoes_2 ?_
  refine z_istore_n hC dX2_openCargoes_3 (by decide) rfl ?_
  have LOOP : ∀ (r n : Nat), n + r = N → True → Z Γ (cω G ca ad) μ 4 [(2, .int (iZ (n : Int))), (1, .int (sOpen d n)), (0, .ref (ad b))] [] := by
    intro r
    induction r with
    | zero =>
      intro n hn _
      refine z_iload_n hC dX2_openCargoes_4 rfl ?_
      refine z_aload_n hC dX2_openCargoes_5 rfl ?_
      refine z_get hC iA_X2 rfl 5 (by decide) qF_X2_56 rfl dX2_openCargoes_6 (cl_desk hb) (cd_desk hb) rfl ?_
      refine z_top (b := d 0 5) ((vw_Cn).symm.trans (congrFun (congrFun hd _) _)) ?_
      refine z_icmp_ge hC 36 dX2_openCargoes_9 (by decide) (by omega) (by omega) (fun c_1 => ?_) (fun c_1 => ?_)
      · refine z_iload_n hC dX2_openCargoes_36 rfl ?_
        obtain rfl : n = N := by omega
        exact z_iret hC dX2_openCargoes_37 ⟨rfl, rfl⟩
      · exfalso; omega
    | succ r ih =>
      intro n hn _
      have hn9 : (n : Int) < d 0 5 := by omega
      obtain ⟨hc0, hc1, hc2, hc3, hc4, hc5, hc6⟩ := hB4 (n : Int) (by omega)
      refine z_iload_n hC dX2_openCargoes_4 rfl ?_
      refine z_aload_n hC dX2_openCargoes_5 rfl ?_
      refine z_get hC iA_X2 rfl 5 (by decide) qF_X2_56 rfl dX2_openCargoes_6 (cl_desk hb) (cd_desk hb) rfl ?_
      refine z_top (b := d 0 5) ((vw_Cn).symm.trans (congrFun (congrFun hd _) _)) ?_
      refine z_icmp_ge hC 36 dX2_openCargoes_9 (by decide) (by omega) (by omega) (fun c_2 => ?_) (fun c_2 => ?_)
      · exfalso; omega
      · refine z_aload_n hC dX2_openCargoes_12 rfl ?_
        refine z_get hC iA_X2 rfl 3 (by decide) qF_X2_26 rfl dX2_openCargoes_13 (cl_desk hb) (cd_desk hb) rfl ?_
        refine z_iload_n hC dX2_openCargoes_16 rfl ?_
        refine z_aald hC dX2_openCargoes_17 3 rfl (cl_cargoes hb) (fun _ i => b + 16 + i) (cd_cargoes hb) (by omega) (by omega) (by decide) ?_
        refine z_get hC iA_X0 rfl 6 (by decide) qF_X2_119 rfl dX2_openCargoes_18 (cl_cargo hb (by omega)) (cd_cargo hb (by omega)) rfl ?_
        refine z_top (b := d (16 + (n : Int)) 6) ((vw_cargo (by omega) (by omega)).symm.trans (congrFun (congrFun hd _) _)) ?_
        refine z_if_ne hC 30 dX2_openCargoes_21 (by decide) (by omega) (fun c_3 => ?_) (fun c_3 => ?_)
        · refine z_iinc hC dX2_openCargoes_30 rfl (by decide) rfl ?_
          refine z_goto hC 4 dX2_openCargoes_33 (by decide) ?_
          have e9 : sOpen d (n + 1) = sOpen d n := by show (if _ then _ else _) = _; rw [if_neg (by omega)]
          have K := ih (n + 1) (by omega) trivial
          rw [e9] at K
          refine z_weak (L' := [(2, .int (iZ ((n + 1 : Nat) : Int))), (1, .int (sOpen d n)), (0, .ref (ad b))]) ⟨rfl, rfl, rfl, trivial⟩ ?_
          exact K
        · refine z_iload_n hC dX2_openCargoes_24 rfl ?_
          refine z_iconst hC dX2_openCargoes_25 ?_
          refine z_iload_n hC dX2_openCargoes_26 rfl ?_
          refine z_ishl hC dX2_openCargoes_27 ?_
          refine z_ior hC dX2_openCargoes_28 ?_
          refine z_istore_n hC dX2_openCargoes_29 (by decide) rfl ?_
          refine z_iinc hC dX2_openCargoes_30 rfl (by decide) rfl ?_
          refine z_goto hC 4 dX2_openCargoes_33 (by decide) ?_
          have e9 : sOpen d (n + 1) = (sOpen d n) ||| ((iZ 1 <<< (iZ (n : Int) &&& 31))) := by show (if _ then _ else _) = _; rw [if_pos (by omega)]
          have K := ih (n + 1) (by omega) trivial
          rw [e9] at K
          refine z_weak (L' := [(2, .int (iZ ((n + 1 : Nat) : Int))), (1, .int ((sOpen d n) ||| ((iZ 1 <<< (iZ (n : Int) &&& 31))))), (0, .ref (ad b))]) ⟨rfl, rfl, rfl, trivial⟩ ?_
          exact K
  refine z_weak (L' := [(2, .int (iZ ((0 : Nat) : Int))), (1, .int (sOpen d 0)), (0, .ref (ad b))]) ⟨rfl, rfl, rfl, trivial⟩ ?_
  exact LOOP N 0 (by omega) trivial

set_option maxHeartbeats 4000000 in
set_option maxRecDepth 100000 in
/-- pairOf(c) -/
theorem m_X2_pairOf (l : Launch) (G : va_G) (ca : Nat → ClassId) (ad : Int → Nat) (A : Nat → Prop) (μ : zM) (b : Int) (hb : zb b) (d : zM) (hd : vw μ b = d) (c : Int) (hB : bD d) (hc : 0 ≤ c ∧ c < d 0 5) : zMet l (cω G ca ad) A yX2_pairOf cX2_pairOf 2 (some .long) 1 21 [.ref (ad b), .int (iZ c)] μ (zpI (.long (sPair d c)) (fun m => m = μ)) := by
  refine zMet_of (by decide) (Nat.le_of_ble_eq_true rfl) (fun Γ hC => ?_)
  show Z Γ _ μ 0 [(0, .ref (ad b)), (1, .int (iZ c))] []
  obtain ⟨hN, hP, hB3, hB4⟩ := id hB
  obtain ⟨hN1, hN2⟩ := id hN
  refine z_aload_n hC dX2_pairOf_0 rfl ?_
  refine z_iload_n hC dX2_pairOf_1 rfl ?_
  have hN1 : μ b 5 = d 0 5 := by rw [← hd, vw_Cn]
  refine z_callV hC [.int (iZ c)] 1 rfl dX2_pairOf_2 (fun l => m_X2_isCargo l G ca ad _ μ b hb c (by omega) (by omega)) qM_X2_116 qI_X2_isCargo qS_X2_isCargo qi_X2 qC_X2_isCargo (by decide +kernel) (by decide) (by decide) (cl_desk hb) (cd_desk hb) rfl (Nat.le_of_ble_eq_true rfl) (zk_pure ?_) rfl
  rw [hN1]
  refine z_ifb_eq hC 35 dX2_pairOf_5 (by decide) (fun c_2 => ?_) (fun c_2 => ?_)
  · exfalso; omega
  · refine z_lconst hC dX2_pairOf_8 rfl ?_
    refine z_bipush hC dX2_pairOf_9 (by decide) ?_
    refine z_aload_n hC dX2_pairOf_11 rfl ?_
    refine z_get hC iA_X2 rfl 3 (by decide) qF_X2_26 rfl dX2_pairOf_12 (cl_desk hb) (cd_desk hb) rfl ?_
    refine z_iload_n hC dX2_pairOf_15 rfl ?_
    refine z_aald hC dX2_pairOf_16 3 rfl (cl_cargoes hb) (fun _ i => b + 16 + i) (cd_cargoes hb) (by omega) (by omega) (by decide) ?_
    refine z_get hC iA_X0 rfl 1 (by decide) qF_X2_98 rfl dX2_pairOf_17 (cl_cargo hb (by omega)) (cd_cargo hb (by omega)) rfl ?_
    refine z_top (b := d (16 + c) 1) ((vw_cargo (by omega) (by omega)).symm.trans (congrFun (congrFun hd _) _)) ?_
    refine z_imul hC dX2_pairOf_20 ?_
    refine z_aload_n hC dX2_pairOf_21 rfl ?_
    refine z_get hC iA_X2 rfl 3 (by decide) qF_X2_26 rfl dX2_pairOf_22 (cl_desk hb) (cd_desk hb) rfl ?_
    refine z_iload_n hC dX2_pairOf_25 rfl ?_
    refine z_aald hC dX2_pairOf_26 3 rfl (cl_cargoes hb) (fun _ i => b + 16 + i) (cd_cargoes hb) (by omega) (by omega) (by decide) ?_
    refine z_get hC iA_X0 rfl 2 (by decide) qF_X2_101 rfl dX2_pairOf_27 (cl_cargo hb (by omega)) (cd_cargo hb (by omega)) rfl ?_
    refine z_top (b := d (16 + c) 2) ((vw_cargo (by omega) (by omega)).symm.trans (congrFun (congrFun hd _) _)) ?_
    refine z_iadd hC dX2_pairOf_30 ?_
    refine z_lshl hC dX2_pairOf_31 rfl ?_
    refine z_goto hC 36 dX2_pairOf_32 (by decide) ?_
    exact z_lret hC dX2_pairOf_36 ⟨rfl, rfl⟩

set_option maxHeartbeats 4000000 in
set_option maxRecDepth 100000 in
/-- chooseGainful() -/
theorem m_X2_chooseGainful (l : Launch) (G : va_G) (ca : Nat → ClassId) (ad : Int → Nat) (A : Nat → Prop) (μ : zM) (b : Int) (hb : zb b) (d : zM) (hd : vw μ b = d) (nk m : Nat) (hB : bD d) (hG : ∀ k, 0 ≤ k ∧ k < d 0 4 → zGo d k (sNum d k)) (hnk : (nk : Int) = d 0 4) (hm : (m : Int) = d 0 5) : zMet l (cω G ca ad) A yX2_chooseGainful cX2_chooseGainful 1 (some .boolean) 5 139 [.ref (ad b)] μ (zpI (.int (iZ (zB ((sAll d 0 0 m nk (0, μ b 9, μ b 10, μ b 11)).1 = 1 ∧ 0 < (sAll d 0 0 m nk (0, μ b 9, μ b 10, μ b 11)).2.2.2)))) (fun μ' => zF2 μ b μ' ∧ μ' b 9 = (sAll d 0 0 m nk (0, μ b 9, μ b 10, μ b 11)).2.1 ∧ μ' b 10 = (sAll d 0 0 m nk (0, μ b 9, μ b 10, μ b 11)).2.2.1 ∧ μ' b 11 = (sAll d 0 0 m nk (0, μ b 9, μ b 10, μ b 11)).2.2.2)) := by
  refine zMet_of (by decide) (Nat.le_of_ble_eq_true rfl) (fun Γ hC => ?_)
  show Z Γ _ μ 0 [(0, .ref (ad b))] []
  obtain ⟨hN, hP, hB3, hB4⟩ := id hB
  obtain ⟨hN1, hN2⟩ := id hN
  have hqb := sAll_b (k := 0) (c := 0) (m := m) (q := (0, μ b 9, μ b 10, μ b 11)) hB (by omega) (by omega) (by omega) hG (Or.inr rfl) nk (by omega)
  refine z_aload_n hC dX2_chooseGainful_0 rfl ?_
  refine z_iconst hC dX2_chooseGainful_1 ?_
  refine z_aload_n hC dX2_chooseGainful_2 rfl ?_
  refine z_get hC iA_X2 rfl 4 (by decide) qF_X2_52 rfl dX2_chooseGainful_3 (cl_desk hb) (cd_desk hb) rfl ?_
  refine z_top (b := d 0 4) ((vw_S).symm.trans (congrFun (congrFun hd _) _)) ?_
  refine z_iconst hC dX2_chooseGainful_6 ?_
  refine z_aload_n hC dX2_chooseGainful_7 rfl ?_
  refine z_get hC iA_X2 rfl 5 (by decide) qF_X2_56 rfl dX2_chooseGainful_8 (cl_desk hb) (cd_desk hb) rfl ?_
  refine z_top (b := d 0 5) ((vw_Cn).symm.trans (congrFun (congrFun hd _) _)) ?_
  refine z_callV hC [.int (iZ 0), .int (iZ (d 0 4)), .int (iZ 0), .int (iZ (d 0 5))] 4 rfl dX2_chooseGainful_11 (fun l => m_X2_choose l G ca ad _ μ b hb d hd 0 (d 0 4) 0 (d 0 5) nk m hB hG (by omega) (by omega) (by omega) (by omega) (by omega) (by omega)) qM_X2_213 qI_X2_choose qS_X2_choose qi_X2 qC_X2_choose (by decide +kernel) (by decide) (by decide) (cl_desk hb) (cd_desk hb) rfl (Nat.le_of_ble_eq_true rfl) (zk_int (fun μ1 hμ1 => ?_)) rfl
  obtain ⟨hμ1f, hμ19, hμ110, hμ111⟩ := id hμ1
  have hd2 : vw μ1 b = d := by rw [vw_f2 hμ1f]; exact hd
  refine z_ifb_eq hC 28 dX2_chooseGainful_14 (by decide) (fun c_3 => ?_) (fun c_3 => ?_)
  · refine z_iconst hC dX2_chooseGainful_28 ?_
    exact z_zret0 hC dX2_chooseGainful_29 ⟨by rw [zB_f (by omega)], hμ1⟩
  · refine z_aload_n hC dX2_chooseGainful_17 rfl ?_
    refine z_get hC iA_X2 rfl 11 (by decide) qF_X2_204 rfl dX2_chooseGainful_18 (cl_desk hb) (cd_desk hb) rfl ?_
    refine z_top (b := (sAll d 0 0 m nk (0, μ b 9, μ b 10, μ b 11)).2.2.2) (by rw [hμ111]) ?_
    refine z_if_le hC 28 dX2_chooseGainful_21 (by decide) (by omega) (fun c_4 => ?_) (fun c_4 => ?_)
    · refine z_iconst hC dX2_chooseGainful_28 ?_
      exact z_zret0 hC dX2_chooseGainful_29 ⟨by rw [zB_f (by omega)], hμ1⟩
    · refine z_iconst hC dX2_chooseGainful_24 ?_
      refine z_goto hC 29 dX2_chooseGainful_25 (by decide) ?_
      exact z_zret1 hC dX2_chooseGainful_29 ⟨by rw [zB_t (by omega)], hμ1⟩
end
section
/-! THE CHANGES: what each answers and what the desk is then -/
def opPort (d : zM) (p x y : Int) : Int × zM := if ¬ ((0 ≤ p ∧ p ≤ 7) ∧ (0 ≤ x ∧ x ≤ 99) ∧ (0 ≤ y ∧ y ≤ 99)) then (-1000001, d) else if 0 < sCnt d 1 (d 0 5).toNat then (-1000002, d) else (100 * d 1 p + d 2 p, zup (zup d 1 p x) 2 p y)
def opShip (d : zM) (z v u p t : Int) : Int × zM := if ¬ ((1 ≤ z ∧ z ≤ 99) ∧ (1 ≤ v ∧ v ≤ 20) ∧ (1 ≤ u ∧ u ≤ 99) ∧ (0 ≤ p ∧ p ≤ 7) ∧ (0 ≤ t ∧ t ≤ 999)) then (-1000001, d) else if 5 ≤ d 0 4 then (-1000003, d) else (d 0 4, zup (zup (zup (zup (zup (zup d (6 + d 0 4) 0 z) (6 + d 0 4) 1 v) (6 + d 0 4) 2 u) (6 + d 0 4) 3 p) (6 + d 0 4) 4 t) 0 4 (d 0 4 + 1))
def opCargo (d : zM) (a l u f t w : Int) : Int × zM := if ¬ ((1 ≤ a ∧ a ≤ 99) ∧ (0 ≤ l ∧ l ≤ 7) ∧ (0 ≤ u ∧ u ≤ 7) ∧ l ≠ u ∧ (0 ≤ f ∧ f ≤ 999) ∧ (f ≤ t ∧ t ≤ 999) ∧ (1 ≤ w ∧ w ≤ 99)) then (-1000001, d) else if 10 ≤ d 0 5 then (-1000003, d) else (d 0 5, zup (zup (zup (zup (zup (zup (zup d (16 + d 0 5) 0 a) (16 + d 0 5) 1 l) (16 + d 0 5) 2 u) (16 + d 0 5) 3 f) (16 + d 0 5) 4 t) (16 + d 0 5) 5 w) 0 5 (d 0 5 + 1))
/-- the cargoes of r fixtures from x on come into the state st -/
def sDrop (k st : Int) : Nat → Int → zM → zM
  | 0, _, d => d
  | r + 1, x, d => sDrop k st r (x + 1) (zup d (16 + d (11 + k) x) 6 st)
def opFix (d : zM) (k c : Int) : Int × zM := if ¬ ((0 ≤ k ∧ k < d 0 4) ∧ (0 ≤ c ∧ c < d 0 5)) then (-1000001, d) else if ¬ (d (16 + c) 6 = 0 ∧ sCould d k c = 0) then (-1000002, d) else (sFree d k c (sEnd d k).1 (sEnd d k).2.1, zup (zup (zup (zup d (11 + k) (d (6 + k) 6) c) (6 + k) 6 (d (6 + k) 6 + 1)) (16 + c) 6 1) (16 + c) 7 k)
def sLater (d : zM) (k n : Int) : zM := zup d (6 + k) 4 (d (6 + k) 4 + n)
def opDelay (d : zM) (k n : Int) : Int × zM := if ¬ ((0 ≤ k ∧ k < d 0 4) ∧ (1 ≤ n ∧ n ≤ 99)) then (-1000001, d) else if 1999 < d (6 + k) 4 + n then (-1000003, d) else
  (d (6 + k) 6 - (sInT (sLater d k n) k : Int), zup (zup (sDrop k 2 (sNum d k - sInT (sLater d k n) k) (sInT (sLater d k n) k : Int) (sLater d k n)) (6 + k) 6 (sInT (sLater d k n) k : Int)) 0 6 (d 0 6 + (d (6 + k) 6 - (sInT (sLater d k n) k : Int))))
/-- what calling a cargo off costs -/
def sPay (d : zM) (c : Int) : Int := (d (16 + c) 0 * d (16 + c) 5 + 10 - 1) / 10
def opOff (d : zM) (k : Int) : Int × zM := if ¬ (0 ≤ k ∧ k < d 0 4) then (-1000001, d) else if d (6 + k) 6 = 0 then (-1000002, d) else
  (sPay d (d (11 + k) (d (6 + k) 6 - 1)), zup (zup (zup (sDrop k 0 1 (d (6 + k) 6 - 1) d) (6 + k) 6 (d (6 + k) 6 - 1)) (6 + k) 5 (d (6 + k) 5 - sPay d (d (11 + k) (d (6 + k) 6 - 1)))) 0 7 (d 0 7 + 1))
def opSettle (d : zM) (k : Int) : Int × zM := if ¬ (0 ≤ k ∧ k < d 0 4) then (-1000001, d) else if d (6 + k) 6 = 0 then (-1000002, d) else
  ((sEnd d k).2.2 + 1000000, zup (sDrop k 2 (sNum d k) 0 (zup (zup (zup d (6 + k) 5 (d (6 + k) 5 + (sEnd d k).2.2)) (6 + k) 3 (sEnd d k).1) (6 + k) 4 (sEnd d k).2.1)) (6 + k) 6 0)
/-- nothing outside the desk b has changed -/
def zFd (μ : zM) (b : Int) (μ' : zM) : Prop := ∀ c, c < b ∨ b + 26 ≤ c → μ' c = μ c
/-- dropping changes no cell but cargoes -/
theorem sDrop_o {k st : Int} : ∀ (r : Nat) (x : Int) (d : zM) (o i : Int), o < 16 → (∀ j : Int, x ≤ j ∧ j < x + (r : Int) → 0 ≤ d (11 + k) j) → k < 5 → sDrop k st r x d o i = d o i := by
  intro r
  induction r with
  | zero => intro x d o i _ _ _; rfl
  | succ r ih =>
    intro x d o i ho h hk
    have h0 := h x (by omega)
    show sDrop k st r (x + 1) (zup d (16 + d (11 + k) x) 6 st) o i = d o i
    rw [ih (x + 1) _ o i ho (fun j hj => by rw [zup_n (by omega)]; exact h j (by omega)) hk, zup_n (by omega)]
theorem bD_later {d : zM} {k n : Int} (hB : bD d) (hk : 0 ≤ k ∧ k < d 0 4) (hn : 1 ≤ n) (h : d (6 + k) 4 + n ≤ 1999) : bD (sLater d k n) := by
  obtain ⟨hN, hP, hS, hC⟩ := hB
  have hN' := hN
  obtain ⟨hN1, hN2⟩ := hN'
  have e : ∀ o i, (o ≠ 6 + k ∨ i ≠ 4) → sLater d k n o i = d o i := fun o i q => zup_n q
  refine ⟨?_, ?_, ?_, ?_⟩
  · unfold bN
    rw [e 0 4 (by omega), e 0 5 (by omega)]
    exact hN
  · intro p hp
    rw [e 1 p (by omega), e 2 p (by omega)]
    exact hP p hp
  · intro k' hk'
    rw [e 0 4 (by omega)] at hk'
    have h9 := hS k' hk'
    unfold bS at h9 ⊢
    rw [e (6 + k') 0 (by omega), e (6 + k') 1 (by omega), e (6 + k') 2 (by omega), e (6 + k') 3 (by omega), e (6 + k') 6 (by omega)]
    by_cases q : k' = k
    · subst q
      have e4 : sLater d k' n (6 + k') 4 = d (6 + k') 4 + n := zup_s
      rw [e4]
      omega
    · rw [e (6 + k') 4 (by omega)]
      exact h9
  · intro c hc
    rw [e 0 5 (by omega)] at hc
    have h9 := hC c hc
    unfold bC at h9 ⊢
    rw [e (16 + c) 0 (by omega), e (16 + c) 1 (by omega), e (16 + c) 2 (by omega), e (16 + c) 3 (by omega), e (16 + c) 4 (by omega), e (16 + c) 5 (by omega), e (16 + c) 6 (by omega)]
    exact h9
theorem sInT_b (d : zM) (k : Int) : sInT d k ≤ sNum d k := by
  have := (sTime_b d k (sNum d k) 0).2
  unfold sInT
  omega
theorem worth_b {d : zM} {c : Int} (hc : bC d c) : 0 ≤ d (16 + c) 0 * d (16 + c) 5 ∧ d (16 + c) 0 * d (16 + c) 5 ≤ 9801 := by
  have h0 := hc.1
  have h5 := hc.2.2.2.2.2.1
  have m1 : d (16 + c) 0 * d (16 + c) 5 ≤ 99 * 99 := Int.mul_le_mul h0.2 h5.2 (by omega) (by omega)
  have m0 : 0 ≤ d (16 + c) 0 * d (16 + c) 5 := Int.mul_nonneg (by omega) (by omega)
  omega
end
section
set_option maxHeartbeats 4000000 in
set_option maxRecDepth 100000 in
/-- opPort d p x y -/
theorem m_X2_movePort (l : Launch) (G : va_G) (ca : Nat → ClassId) (ad : Int → Nat) (A : Nat → Prop) (μ : zM) (b : Int) (hb : zb b) (d : zM) (hd : vw μ b = d) (p x y : Int) (hp : -2147483648 ≤ p ∧ p ≤ 2147483647) (hx : -2147483648 ≤ x ∧ x ≤ 2147483647) (hy : -2147483648 ≤ y ∧ y ≤ 2147483647) (hB : bD d) : zMet l (cω G ca ad) A yX2_movePort cX2_movePort 5 (some .int) 2 42 [.ref (ad b), .int (iZ p), .int (iZ x), .int (iZ y)] μ (zpI (.int (iZ (opPort d p x y).1)) (fun μ' => vw μ' b = (opPort d p x y).2 ∧ zFd μ b μ')) := by
  refine zMet_of (by decide) (Nat.le_of_ble_eq_true rfl) (fun Γ hC => ?_)
  show Z Γ _ μ 0 [(0, .ref (ad b)), (1, .int (iZ p)), (2, .int (iZ x)), (3, .int (iZ y))] []
  obtain ⟨hN, hP, hB3, hB4⟩ := id hB
  obtain ⟨hN1, hN2⟩ := id hN
  have hcn := sCnt_b d 1 (d 0 5).toNat
  refine z_iload_n hC dX2_movePort_0 rfl ?_
  refine z_callSN hC [.int (iZ p)] 1 rfl dX2_movePort_1 (fun l => m_X7_isPort l _ _ _ p (by omega)) (by decide +kernel) qT_X7_isPort qi_X7 qC_X7_isPort (by decide +kernel) (by decide) (by decide) (Nat.le_of_ble_eq_true rfl) (zk_pure ?_) rfl
  refine z_ifb_eq hC 27 dX2_movePort_4 (by decide) (fun c_1 => ?_) (fun c_1 => ?_)
  · refine z_ldc hC (-1000001) qc_X2_73 rfl dX2_movePort_27 ?_
    have e9 : opPort d p x y = ((-1000001), d) := by
      unfold opPort
      rw [if_pos (by omega)]
    exact z_iret hC dX2_movePort_29 ⟨by rw [e9], by rw [e9, hd], fun c9 hc9 => rfl⟩
  · refine z_iload_n hC dX2_movePort_7 rfl ?_
    refine z_iconst hC dX2_movePort_8 ?_
    refine z_bipush hC dX2_movePort_9 (by decide) ?_
    refine z_callSN hC [.int (iZ x), .int (iZ 0), .int (iZ 99)] 3 rfl dX2_movePort_11 (fun l => m_X7_isIn l _ _ _ x 0 99 (by omega) (by omega) (by omega)) (by decide +kernel) qT_X7_isIn qi_X7 qC_X7_isIn (by decide +kernel) (by decide) (by decide) (Nat.le_of_ble_eq_true rfl) (zk_pure ?_) rfl
    refine z_ifb_eq hC 27 dX2_movePort_14 (by decide) (fun c_2 => ?_) (fun c_2 => ?_)
    · refine z_ldc hC (-1000001) qc_X2_73 rfl dX2_movePort_27 ?_
      have e9 : opPort d p x y = ((-1000001), d) := by
        unfold opPort
        rw [if_pos (by omega)]
      exact z_iret hC dX2_movePort_29 ⟨by rw [e9], by rw [e9, hd], fun c9 hc9 => rfl⟩
    · refine z_iload_n hC dX2_movePort_17 rfl ?_
      refine z_iconst hC dX2_movePort_18 ?_
      refine z_bipush hC dX2_movePort_19 (by decide) ?_
      refine z_callSN hC [.int (iZ y), .int (iZ 0), .int (iZ 99)] 3 rfl dX2_movePort_21 (fun l => m_X7_isIn l _ _ _ y 0 99 (by omega) (by omega) (by omega)) (by decide +kernel) qT_X7_isIn qi_X7 qC_X7_isIn (by decide +kernel) (by decide) (by decide) (Nat.le_of_ble_eq_true rfl) (zk_pure ?_) rfl
      refine z_ifb_ne hC 30 dX2_movePort_24 (by decide) (fun c_3 => ?_) (fun c_3 => ?_)
      · refine z_aload_n hC dX2_movePort_30 rfl ?_
        refine z_iconst hC dX2_movePort_31 ?_
        refine z_callV hC [.int (iZ 1)] 1 rfl dX2_movePort_32 (fun l => m_X2_cargoesThatAre l G ca ad _ μ b hb d hd 1 (by omega) (d 0 5).toNat (by omega) hB) qM_X2_74 qI_X2_cargoesThatAre qS_X2_cargoesThatAre qi_X2 qC_X2_cargoesThatAre (by decide +kernel) (by decide) (by decide) (cl_desk hb) (cd_desk hb) rfl (Nat.le_of_ble_eq_true rfl) (zk_pure ?_) rfl
        refine z_if_le hC 41 dX2_movePort_35 (by decide) (by omega) (fun c_4 => ?_) (fun c_4 => ?_)
        · refine z_bipush hC dX2_movePort_41 (by decide) ?_
          refine z_aload_n hC dX2_movePort_43 rfl ?_
          refine z_get hC iA_X2 rfl 0 (by decide) qF_X2_9 rfl dX2_movePort_44 (cl_desk hb) (cd_desk hb) rfl ?_
          refine z_iload_n hC dX2_movePort_47 rfl ?_
          refine z_iald hC dX2_movePort_48 (cl_x hb) (cd_x hb) (by omega) (by omega) (by decide) ?_
          refine z_top (b := d 1 p) ((vw_x (by omega)).symm.trans (congrFun (congrFun hd _) _)) ?_
          refine z_imul hC dX2_movePort_49 ?_
          refine z_aload_n hC dX2_movePort_50 rfl ?_
          refine z_get hC iA_X2 rfl 1 (by decide) qF_X2_15 rfl dX2_movePort_51 (cl_desk hb) (cd_desk hb) rfl ?_
          refine z_iload_n hC dX2_movePort_54 rfl ?_
          refine z_iald hC dX2_movePort_55 (cl_y hb) (cd_y hb) (by omega) (by omega) (by decide) ?_
          refine z_top (b := d 2 p) ((vw_y (by omega)).symm.trans (congrFun (congrFun hd _) _)) ?_
          refine z_iadd hC dX2_movePort_56 ?_
          refine z_istore hC dX2_movePort_57 (by decide) rfl ?_
          refine z_aload_n hC dX2_movePort_59 rfl ?_
          refine z_get hC iA_X2 rfl 0 (by decide) qF_X2_9 rfl dX2_movePort_60 (cl_desk hb) (cd_desk hb) rfl ?_
          refine z_iload_n hC dX2_movePort_63 rfl ?_
          refine z_iload_n hC dX2_movePort_64 rfl ?_
          refine z_iast hC dX2_movePort_65 (cl_x hb) (cd_x hb) (by omega) (by omega) (by decide) ?_
          refine z_nm (fun μ5 hμ5 => ?_)
          obtain ⟨d7, hd7⟩ : ∃ q9 : zM, q9 = zup d 1 p x := ⟨_, rfl⟩
          have hd6 : vw μ5 b = d7 := by rw [hμ5, vw_up (by unfold zrel; omega), hd, hd7]
          refine z_aload_n hC dX2_movePort_66 rfl ?_
          refine z_get hC iA_X2 rfl 1 (by decide) qF_X2_15 rfl dX2_movePort_67 (cl_desk hb) (cd_desk hb) rfl ?_
          refine z_iload_n hC dX2_movePort_70 rfl ?_
          refine z_iload_n hC dX2_movePort_71 rfl ?_
          refine z_iast hC dX2_movePort_72 (cl_y hb) (cd_y hb) (by omega) (by omega) (by decide) ?_
          refine z_nm (fun μ8 hμ8 => ?_)
          obtain ⟨d10, hd10⟩ : ∃ q9 : zM, q9 = zup d7 2 p y := ⟨_, rfl⟩
          have hd9 : vw μ8 b = d10 := by rw [hμ8, vw_up (by unfold zrel; omega), hd6, hd10]
          refine z_iload hC dX2_movePort_73 rfl ?_
          have e9 : opPort d p x y = ((100 * (d 1 p)) + (d 2 p), zup (zup d 1 p x) 2 p y) := by
            unfold opPort
            rw [if_neg (by omega), if_neg (by omega)]
          exact z_iret hC dX2_movePort_75 ⟨by rw [e9], by rw [e9, hd9, hd10, hd7], fun c9 hc9 => by rw [hμ8, zup_o (by omega), hμ5, zup_o (by omega)]⟩
        · refine z_ldc hC (-1000002) qc_X2_78 rfl dX2_movePort_38 ?_
          have e9 : opPort d p x y = ((-1000002), d) := by
            unfold opPort
            rw [if_neg (by omega), if_pos (by omega)]
          exact z_iret hC dX2_movePort_40 ⟨by rw [e9], by rw [e9, hd], fun c9 hc9 => rfl⟩
      · refine z_ldc hC (-1000001) qc_X2_73 rfl dX2_movePort_27 ?_
        have e9 : opPort d p x y = ((-1000001), d) := by
          unfold opPort
          rw [if_pos (by omega)]
        exact z_iret hC dX2_movePort_29 ⟨by rw [e9], by rw [e9, hd], fun c9 hc9 => rfl⟩

set_option maxHeartbeats 4000000 in
set_option maxRecDepth 100000 in
/-- opShip d z v u p t -/
theorem m_X2_addShip (l : Launch) (G : va_G) (ca : Nat → ClassId) (ad : Int → Nat) (A : Nat → Prop) (μ : zM) (b : Int) (hb : zb b) (d : zM) (hd : vw μ b = d) (z v u p t : Int) (hz : -2147483648 ≤ z ∧ z ≤ 2147483647) (hv : -2147483648 ≤ v ∧ v ≤ 2147483647) (hu : -2147483648 ≤ u ∧ u ≤ 2147483647) (hp : -2147483648 ≤ p ∧ p ≤ 2147483647) (ht : -2147483648 ≤ t ∧ t ≤ 2147483647) (hN : bN d) : zMet l (cω G ca ad) A yX2_addShip cX2_addShip 7 (some .int) 2 42 [.ref (ad b), .int (iZ z), .int (iZ v), .int (iZ u), .int (iZ p), .int (iZ t)] μ (zpI (.int (iZ (opShip d z v u p t).1)) (fun μ' => vw μ' b = (opShip d z v u p t).2 ∧ zFd μ b μ')) := by
  refine zMet_of (by decide) (Nat.le_of_ble_eq_true rfl) (fun Γ hC => ?_)
  show Z Γ _ μ 0 [(0, .ref (ad b)), (1, .int (iZ z)), (2, .int (iZ v)), (3, .int (iZ u)), (4, .int (iZ p)), (5, .int (iZ t))] []
  obtain ⟨hN1, hN2⟩ := id hN
  refine z_iload_n hC dX2_addShip_0 rfl ?_
  refine z_iconst hC dX2_addShip_1 ?_
  refine z_bipush hC dX2_addShip_2 (by decide) ?_
  refine z_callSN hC [.int (iZ z), .int (iZ 1), .int (iZ 99)] 3 rfl dX2_addShip_4 (fun l => m_X7_isIn l _ _ _ z 1 99 (by omega) (by omega) (by omega)) (by decide +kernel) qT_X7_isIn qi_X7 qC_X7_isIn (by decide +kernel) (by decide) (by decide) (Nat.le_of_ble_eq_true rfl) (zk_pure ?_) rfl
  refine z_ifb_eq hC 50 dX2_addShip_7 (by decide) (fun c_1 => ?_) (fun c_1 => ?_)
  · refine z_ldc hC (-1000001) qc_X2_73 rfl dX2_addShip_50 ?_
    have e9 : opShip d z v u p t = ((-1000001), d) := by
      unfold opShip
      rw [if_pos (by omega)]
    exact z_iret hC dX2_addShip_52 ⟨by rw [e9], by rw [e9, hd], fun c9 hc9 => rfl⟩
  · refine z_iload_n hC dX2_addShip_10 rfl ?_
    refine z_iconst hC dX2_addShip_11 ?_
    refine z_bipush hC dX2_addShip_12 (by decide) ?_
    refine z_callSN hC [.int (iZ v), .int (iZ 1), .int (iZ 20)] 3 rfl dX2_addShip_14 (fun l => m_X7_isIn l _ _ _ v 1 20 (by omega) (by omega) (by omega)) (by decide +kernel) qT_X7_isIn qi_X7 qC_X7_isIn (by decide +kernel) (by decide) (by decide) (Nat.le_of_ble_eq_true rfl) (zk_pure ?_) rfl
    refine z_ifb_eq hC 50 dX2_addShip_17 (by decide) (fun c_2 => ?_) (fun c_2 => ?_)
    · refine z_ldc hC (-1000001) qc_X2_73 rfl dX2_addShip_50 ?_
      have e9 : opShip d z v u p t = ((-1000001), d) := by
        unfold opShip
        rw [if_pos (by omega)]
      exact z_iret hC dX2_addShip_52 ⟨by rw [e9], by rw [e9, hd], fun c9 hc9 => rfl⟩
    · refine z_iload_n hC dX2_addShip_20 rfl ?_
      refine z_iconst hC dX2_addShip_21 ?_
      refine z_bipush hC dX2_addShip_22 (by decide) ?_
      refine z_callSN hC [.int (iZ u), .int (iZ 1), .int (iZ 99)] 3 rfl dX2_addShip_24 (fun l => m_X7_isIn l _ _ _ u 1 99 (by omega) (by omega) (by omega)) (by decide +kernel) qT_X7_isIn qi_X7 qC_X7_isIn (by decide +kernel) (by decide) (by decide) (Nat.le_of_ble_eq_true rfl) (zk_pure ?_) rfl
      refine z_ifb_eq hC 50 dX2_addShip_27 (by decide) (fun c_3 => ?_) (fun c_3 => ?_)
      · refine z_ldc hC (-1000001) qc_X2_73 rfl dX2_addShip_50 ?_
        have e9 : opShip d z v u p t = ((-1000001), d) := by
          unfold opShip
          rw [if_pos (by omega)]
        exact z_iret hC dX2_addShip_52 ⟨by rw [e9], by rw [e9, hd], fun c9 hc9 => rfl⟩
      · refine z_iload hC dX2_addShip_30 rfl ?_
        refine z_callSN hC [.int (iZ p)] 1 rfl dX2_addShip_32 (fun l => m_X7_isPort l _ _ _ p (by omega)) (by decide +kernel) qT_X7_isPort qi_X7 qC_X7_isPort (by decide +kernel) (by decide) (by decide) (Nat.le_of_ble_eq_true rfl) (zk_pure ?_) rfl
        refine z_ifb_eq hC 50 dX2_addShip_35 (by decide) (fun c_4 => ?_) (fun c_4 => ?_)
        · refine z_ldc hC (-1000001) qc_X2_73 rfl dX2_addShip_50 ?_
          have e9 : opShip d z v u p t = ((-1000001), d) := by
            unfold opShip
            rw [if_pos (by omega)]
          exact z_iret hC dX2_addShip_52 ⟨by rw [e9], by rw [e9, hd], fun c9 hc9 => rfl⟩
        · refine z_iload hC dX2_addShip_38 rfl ?_
          refine z_iconst hC dX2_addShip_40 ?_
          refine z_sipush hC dX2_addShip_41 (by decide) ?_
          refine z_callSN hC [.int (iZ t), .int (iZ 0), .int (iZ 999)] 3 rfl dX2_addShip_44 (fun l => m_X7_isIn l _ _ _ t 0 999 (by omega) (by omega) (by omega)) (by decide +kernel) qT_X7_isIn qi_X7 qC_X7_isIn (by decide +kernel) (by decide) (by decide) (Nat.le_of_ble_eq_true rfl) (zk_pure ?_) rfl
          refine z_ifb_ne hC 53 dX2_addShip_47 (by decide) (fun c_5 => ?_) (fun c_5 => ?_)
          · refine z_aload_n hC dX2_addShip_53 rfl ?_
            refine z_get hC iA_X2 rfl 4 (by decide) qF_X2_52 rfl dX2_addShip_54 (cl_desk hb) (cd_desk hb) rfl ?_
            refine z_top (b := d 0 4) ((vw_S).symm.trans (congrFun (congrFun hd _) _)) ?_
            refine z_iconst hC dX2_addShip_57 ?_
            refine z_icmp_lt hC 64 dX2_addShip_58 (by decide) (by omega) (by omega) (fun c_6 => ?_) (fun c_6 => ?_)
            · refine z_aload_n hC dX2_addShip_64 rfl ?_
              refine z_get hC iA_X2 rfl 2 (by decide) qF_X2_20 rfl dX2_addShip_65 (cl_desk hb) (cd_desk hb) rfl ?_
              refine z_aload_n hC dX2_addShip_68 rfl ?_
              refine z_get hC iA_X2 rfl 4 (by decide) qF_X2_52 rfl dX2_addShip_69 (cl_desk hb) (cd_desk hb) rfl ?_
              refine z_top (b := d 0 4) ((vw_S).symm.trans (congrFun (congrFun hd _) _)) ?_
              refine z_aald hC dX2_addShip_72 2 rfl (cl_ships hb) (fun _ i => b + 6 + i) (cd_ships hb) (by omega) (by omega) (by decide) ?_
              refine z_astore hC dX2_addShip_73 (by decide) rfl ?_
              refine z_aload hC dX2_addShip_75 rfl ?_
              refine z_iload_n hC dX2_addShip_77 rfl ?_
              refine z_put hC iA_X6 rfl tyX6 tyX6_ok nmX6 0 (by decide) rfl rfl 0 rfl qF_X2_80 rfl dX2_addShip_78 (cl_ship hb (by omega)) (cd_ship hb (by omega)) (fun _ => rfl) (fun _ => Nat.le_of_ble_eq_true rfl) ?_
              refine z_nm (fun μ7 hμ7 => ?_)
              obtain ⟨d9, hd9⟩ : ∃ q9 : zM, q9 = zup d (6 + (d 0 4)) 0 z := ⟨_, rfl⟩
              have hd8 : vw μ7 b = d9 := by rw [hμ7, vw_upk (by unfold zrel; omega), hd, hd9]
              refine z_aload hC dX2_addShip_81 rfl ?_
              refine z_iload_n hC dX2_addShip_83 rfl ?_
              refine z_put hC iA_X6 rfl tyX6 tyX6_ok nmX6 1 (by decide) rfl rfl 1 rfl qF_X2_83 rfl dX2_addShip_84 (cl_ship hb (by omega)) (cd_ship hb (by omega)) (fun _ => rfl) (fun _ => Nat.le_of_ble_eq_true rfl) ?_
              refine z_nm (fun μ10 hμ10 => ?_)
              obtain ⟨d12, hd12⟩ : ∃ q9 : zM, q9 = zup d9 (6 + (d 0 4)) 1 v := ⟨_, rfl⟩
              have hd11 : vw μ10 b = d12 := by rw [hμ10, vw_upk (by unfold zrel; omega), hd8, hd12]
              refine z_aload hC dX2_addShip_87 rfl ?_
              refine z_iload_n hC dX2_addShip_89 rfl ?_
              refine z_put hC iA_X6 rfl tyX6 tyX6_ok nmX6 2 (by decide) rfl rfl 2 rfl qF_X2_86 rfl dX2_addShip_90 (cl_ship hb (by omega)) (cd_ship hb (by omega)) (fun _ => rfl) (fun _ => Nat.le_of_ble_eq_true rfl) ?_
              refine z_nm (fun μ13 hμ13 => ?_)
              obtain ⟨d15, hd15⟩ : ∃ q9 : zM, q9 = zup d12 (6 + (d 0 4)) 2 u := ⟨_, rfl⟩
              have hd14 : vw μ13 b = d15 := by rw [hμ13, vw_upk (by unfold zrel; omega), hd11, hd15]
              refine z_aload hC dX2_addShip_93 rfl ?_
              refine z_iload hC dX2_addShip_95 rfl ?_
              refine z_put hC iA_X6 rfl tyX6 tyX6_ok nmX6 3 (by decide) rfl rfl 3 rfl qF_X2_89 rfl dX2_addShip_97 (cl_ship hb (by omega)) (cd_ship hb (by omega)) (fun _ => rfl) (fun _ => Nat.le_of_ble_eq_true rfl) ?_
              refine z_nm (fun μ16 hμ16 => ?_)
              obtain ⟨d18, hd18⟩ : ∃ q9 : zM, q9 = zup d15 (6 + (d 0 4)) 3 p := ⟨_, rfl⟩
              have hd17 : vw μ16 b = d18 := by rw [hμ16, vw_upk (by unfold zrel; omega), hd14, hd18]
              refine z_aload hC dX2_addShip_100 rfl ?_
              refine z_iload hC dX2_addShip_102 rfl ?_
              refine z_put hC iA_X6 rfl tyX6 tyX6_ok nmX6 4 (by decide) rfl rfl 4 rfl qF_X2_92 rfl dX2_addShip_104 (cl_ship hb (by omega)) (cd_ship hb (by omega)) (fun _ => rfl) (fun _ => Nat.le_of_ble_eq_true rfl) ?_
              refine z_nm (fun μ19 hμ19 => ?_)
              obtain ⟨d21, hd21⟩ : ∃ q9 : zM, q9 = zup d18 (6 + (d 0 4)) 4 t := ⟨_, rfl⟩
              have hd20 : vw μ19 b = d21 := by rw [hμ19, vw_upk (by unfold zrel; omega), hd17, hd21]
              refine z_aload_n hC dX2_addShip_107 rfl ?_
              refine z_dup hC dX2_addShip_108 rfl ?_
              refine z_get hC iA_X2 rfl 4 (by decide) qF_X2_52 rfl dX2_addShip_109 (cl_desk hb) (cd_desk hb) rfl ?_
              refine z_top (b := d21 0 4) ((vw_S).symm.trans (congrFun (congrFun hd20 _) _)) ?_
              refine z_top (b := d 0 4) (by rw [hd21, zup_n (by omega), hd18, zup_n (by omega), hd15, zup_n (by omega), hd12, zup_n (by omega), hd9, zup_n (by omega)]) ?_
              refine z_dup_x1 hC dX2_addShip_112 rfl rfl ?_
              refine z_iconst hC dX2_addShip_113 ?_
              refine z_iadd hC dX2_addShip_114 ?_
              refine z_put hC iA_X2 rfl tyX2 tyX2_ok nmX2 4 (by decide) rfl rfl 4 rfl qF_X2_52 rfl dX2_addShip_115 (cl_desk hb) (cd_desk hb) (fun _ => rfl) (fun _ => Nat.le_of_ble_eq_true rfl) ?_
              refine z_nm (fun μ22 hμ22 => ?_)
              obtain ⟨d24, hd24⟩ : ∃ q9 : zM, q9 = zup d21 0 4 ((d 0 4) + 1) := ⟨_, rfl⟩
              have hd23 : vw μ22 b = d24 := by rw [hμ22, vw_up0 (by unfold zrel; omega), hd20, hd24]
              have e9 : opShip d z v u p t = (d 0 4, zup (zup (zup (zup (zup (zup d (6 + (d 0 4)) 0 z) (6 + (d 0 4)) 1 v) (6 + (d 0 4)) 2 u) (6 + (d 0 4)) 3 p) (6 + (d 0 4)) 4 t) 0 4 ((d 0 4) + 1)) := by
                unfold opShip
                rw [if_neg (by omega), if_neg (by omega)]
              exact z_iret hC dX2_addShip_118 ⟨by rw [e9], by rw [e9, hd23, hd24, hd21, hd18, hd15, hd12, hd9], fun c9 hc9 => by rw [hμ22, zup_o (by omega), hμ19, zup_o (by omega), hμ16, zup_o (by omega), hμ13, zup_o (by omega), hμ10, zup_o (by omega), hμ7, zup_o (by omega)]⟩
            · refine z_ldc hC (-1000003) qc_X2_79 rfl dX2_addShip_61 ?_
              have e9 : opShip d z v u p t = ((-1000003), d) := by
                unfold opShip
                rw [if_neg (by omega), if_pos (by omega)]
              exact z_iret hC dX2_addShip_63 ⟨by rw [e9], by rw [e9, hd], fun c9 hc9 => rfl⟩
          · refine z_ldc hC (-1000001) qc_X2_73 rfl dX2_addShip_50 ?_
            have e9 : opShip d z v u p t = ((-1000001), d) := by
              unfold opShip
              rw [if_pos (by omega)]
            exact z_iret hC dX2_addShip_52 ⟨by rw [e9], by rw [e9, hd], fun c9 hc9 => rfl⟩

set_option maxHeartbeats 4000000 in
set_option maxRecDepth 100000 in
/-- opCargo d a g u f t w -/
theorem m_X2_addCargo (l : Launch) (G : va_G) (ca : Nat → ClassId) (ad : Int → Nat) (A : Nat → Prop) (μ : zM) (b : Int) (hb : zb b) (d : zM) (hd : vw μ b = d) (a g u f t w : Int) (ha : -2147483648 ≤ a ∧ a ≤ 2147483647) (hg : -2147483648 ≤ g ∧ g ≤ 2147483647) (hu : -2147483648 ≤ u ∧ u ≤ 2147483647) (hf : -2147483648 ≤ f ∧ f ≤ 2147483647) (ht : -2147483648 ≤ t ∧ t ≤ 2147483647) (hw : -2147483648 ≤ w ∧ w ≤ 2147483647) (hN : bN d) : zMet l (cω G ca ad) A yX2_addCargo cX2_addCargo 8 (some .int) 2 42 [.ref (ad b), .int (iZ a), .int (iZ g), .int (iZ u), .int (iZ f), .int (iZ t), .int (iZ w)] μ (zpI (.int (iZ (opCargo d a g u f t w).1)) (fun μ' => vw μ' b = (opCargo d a g u f t w).2 ∧ zFd μ b μ')) := by
  refine zMet_of (by decide) (Nat.le_of_ble_eq_true rfl) (fun Γ hC => ?_)
  show Z Γ _ μ 0 [(0, .ref (ad b)), (1, .int (iZ a)), (2, .int (iZ g)), (3, .int (iZ u)), (4, .int (iZ f)), (5, .int (iZ t)), (6, .int (iZ w))] []
  obtain ⟨hN1, hN2⟩ := id hN
  refine z_iload_n hC dX2_addCargo_0 rfl ?_
  refine z_iconst hC dX2_addCargo_1 ?_
  refine z_bipush hC dX2_addCargo_2 (by decide) ?_
  refine z_callSN hC [.int (iZ a), .int (iZ 1), .int (iZ 99)] 3 rfl dX2_addCargo_4 (fun l => m_X7_isIn l _ _ _ a 1 99 (by omega) (by omega) (by omega)) (by decide +kernel) qT_X7_isIn qi_X7 qC_X7_isIn (by decide +kernel) (by decide) (by decide) (Nat.le_of_ble_eq_true rfl) (zk_pure ?_) rfl
  refine z_ifb_eq hC 65 dX2_addCargo_7 (by decide) (fun c_1 => ?_) (fun c_1 => ?_)
  · refine z_ldc hC (-1000001) qc_X2_73 rfl dX2_addCargo_65 ?_
    have e9 : opCargo d a g u f t w = ((-1000001), d) := by
      unfold opCargo
      rw [if_pos (by omega)]
    exact z_iret hC dX2_addCargo_67 ⟨by rw [e9], by rw [e9, hd], fun c9 hc9 => rfl⟩
  · refine z_iload_n hC dX2_addCargo_10 rfl ?_
    refine z_callSN hC [.int (iZ g)] 1 rfl dX2_addCargo_11 (fun l => m_X7_isPort l _ _ _ g (by omega)) (by decide +kernel) qT_X7_isPort qi_X7 qC_X7_isPort (by decide +kernel) (by decide) (by decide) (Nat.le_of_ble_eq_true rfl) (zk_pure ?_) rfl
    refine z_ifb_eq hC 65 dX2_addCargo_14 (by decide) (fun c_2 => ?_) (fun c_2 => ?_)
    · refine z_ldc hC (-1000001) qc_X2_73 rfl dX2_addCargo_65 ?_
      have e9 : opCargo d a g u f t w = ((-1000001), d) := by
        unfold opCargo
        rw [if_pos (by omega)]
      exact z_iret hC dX2_addCargo_67 ⟨by rw [e9], by rw [e9, hd], fun c9 hc9 => rfl⟩
    · refine z_iload_n hC dX2_addCargo_17 rfl ?_
      refine z_callSN hC [.int (iZ u)] 1 rfl dX2_addCargo_18 (fun l => m_X7_isPort l _ _ _ u (by omega)) (by decide +kernel) qT_X7_isPort qi_X7 qC_X7_isPort (by decide +kernel) (by decide) (by decide) (Nat.le_of_ble_eq_true rfl) (zk_pure ?_) rfl
      refine z_ifb_eq hC 65 dX2_addCargo_21 (by decide) (fun c_3 => ?_) (fun c_3 => ?_)
      · refine z_ldc hC (-1000001) qc_X2_73 rfl dX2_addCargo_65 ?_
        have e9 : opCargo d a g u f t w = ((-1000001), d) := by
          unfold opCargo
          rw [if_pos (by omega)]
        exact z_iret hC dX2_addCargo_67 ⟨by rw [e9], by rw [e9, hd], fun c9 hc9 => rfl⟩
      · refine z_iload_n hC dX2_addCargo_24 rfl ?_
        refine z_iload_n hC dX2_addCargo_25 rfl ?_
        refine z_icmp_eq hC 65 dX2_addCargo_26 (by decide) (by omega) (by omega) (fun c_4 => ?_) (fun c_4 => ?_)
        · refine z_ldc hC (-1000001) qc_X2_73 rfl dX2_addCargo_65 ?_
          have e9 : opCargo d a g u f t w = ((-1000001), d) := by
            unfold opCargo
            rw [if_pos (by omega)]
          exact z_iret hC dX2_addCargo_67 ⟨by rw [e9], by rw [e9, hd], fun c9 hc9 => rfl⟩
        · refine z_iload hC dX2_addCargo_29 rfl ?_
          refine z_iconst hC dX2_addCargo_31 ?_
          refine z_sipush hC dX2_addCargo_32 (by decide) ?_
          refine z_callSN hC [.int (iZ f), .int (iZ 0), .int (iZ 999)] 3 rfl dX2_addCargo_35 (fun l => m_X7_isIn l _ _ _ f 0 999 (by omega) (by omega) (by omega)) (by decide +kernel) qT_X7_isIn qi_X7 qC_X7_isIn (by decide +kernel) (by decide) (by decide) (Nat.le_of_ble_eq_true rfl) (zk_pure ?_) rfl
          refine z_ifb_eq hC 65 dX2_addCargo_38 (by decide) (fun c_5 => ?_) (fun c_5 => ?_)
          · refine z_ldc hC (-1000001) qc_X2_73 rfl dX2_addCargo_65 ?_
            have e9 : opCargo d a g u f t w = ((-1000001), d) := by
              unfold opCargo
              rw [if_pos (by omega)]
            exact z_iret hC dX2_addCargo_67 ⟨by rw [e9], by rw [e9, hd], fun c9 hc9 => rfl⟩
          · refine z_iload hC dX2_addCargo_41 rfl ?_
            refine z_iload hC dX2_addCargo_43 rfl ?_
            refine z_sipush hC dX2_addCargo_45 (by decide) ?_
            refine z_callSN hC [.int (iZ t), .int (iZ f), .int (iZ 999)] 3 rfl dX2_addCargo_48 (fun l => m_X7_isIn l _ _ _ t f 999 (by omega) (by omega) (by omega)) (by decide +kernel) qT_X7_isIn qi_X7 qC_X7_isIn (by decide +kernel) (by decide) (by decide) (Nat.le_of_ble_eq_true rfl) (zk_pure ?_) rfl
            refine z_ifb_eq hC 65 dX2_addCargo_51 (by decide) (fun c_6 => ?_) (fun c_6 => ?_)
            · refine z_ldc hC (-1000001) qc_X2_73 rfl dX2_addCargo_65 ?_
              have e9 : opCargo d a g u f t w = ((-1000001), d) := by
                unfold opCargo
                rw [if_pos (by omega)]
              exact z_iret hC dX2_addCargo_67 ⟨by rw [e9], by rw [e9, hd], fun c9 hc9 => rfl⟩
            · refine z_iload hC dX2_addCargo_54 rfl ?_
              refine z_iconst hC dX2_addCargo_56 ?_
              refine z_bipush hC dX2_addCargo_57 (by decide) ?_
              refine z_callSN hC [.int (iZ w), .int (iZ 1), .int (iZ 99)] 3 rfl dX2_addCargo_59 (fun l => m_X7_isIn l _ _ _ w 1 99 (by omega) (by omega) (by omega)) (by decide +kernel) qT_X7_isIn qi_X7 qC_X7_isIn (by decide +kernel) (by decide) (by decide) (Nat.le_of_ble_eq_true rfl) (zk_pure ?_) rfl
              refine z_ifb_ne hC 68 dX2_addCargo_62 (by decide) (fun c_7 => ?_) (fun c_7 => ?_)
              · refine z_aload_n hC dX2_addCargo_68 rfl ?_
                refine z_get hC iA_X2 rfl 5 (by decide) qF_X2_56 rfl dX2_addCargo_69 (cl_desk hb) (cd_desk hb) rfl ?_
                refine z_top (b := d 0 5) ((vw_Cn).symm.trans (congrFun (congrFun hd _) _)) ?_
                refine z_bipush hC dX2_addCargo_72 (by decide) ?_
                refine z_icmp_lt hC 80 dX2_addCargo_74 (by decide) (by omega) (by omega) (fun c_8 => ?_) (fun c_8 => ?_)
                · refine z_aload_n hC dX2_addCargo_80 rfl ?_
                  refine z_get hC iA_X2 rfl 3 (by decide) qF_X2_26 rfl dX2_addCargo_81 (cl_desk hb) (cd_desk hb) rfl ?_
                  refine z_aload_n hC dX2_addCargo_84 rfl ?_
                  refine z_get hC iA_X2 rfl 5 (by decide) qF_X2_56 rfl dX2_addCargo_85 (cl_desk hb) (cd_desk hb) rfl ?_
                  refine z_top (b := d 0 5) ((vw_Cn).symm.trans (congrFun (congrFun hd _) _)) ?_
                  refine z_aald hC dX2_addCargo_88 3 rfl (cl_cargoes hb) (fun _ i => b + 16 + i) (cd_cargoes hb) (by omega) (by omega) (by decide) ?_
                  refine z_astore hC dX2_addCargo_89 (by decide) rfl ?_
                  refine z_aload hC dX2_addCargo_91 rfl ?_
                  refine z_iload_n hC dX2_addCargo_93 rfl ?_
                  refine z_put hC iA_X0 rfl tyX0 tyX0_ok nmX0 0 (by decide) rfl rfl 0 rfl qF_X2_95 rfl dX2_addCargo_94 (cl_cargo hb (by omega)) (cd_cargo hb (by omega)) (fun _ => rfl) (fun _ => Nat.le_of_ble_eq_true rfl) ?_
                  refine z_nm (fun μ9 hμ9 => ?_)
                  obtain ⟨d11, hd11⟩ : ∃ q9 : zM, q9 = zup d (16 + (d 0 5)) 0 a := ⟨_, rfl⟩
                  have hd10 : vw μ9 b = d11 := by rw [hμ9, vw_upk (by unfold zrel; omega), hd, hd11]
                  refine z_aload hC dX2_addCargo_97 rfl ?_
                  refine z_iload_n hC dX2_addCargo_99 rfl ?_
                  refine z_put hC iA_X0 rfl tyX0 tyX0_ok nmX0 1 (by decide) rfl rfl 1 rfl qF_X2_98 rfl dX2_addCargo_100 (cl_cargo hb (by omega)) (cd_cargo hb (by omega)) (fun _ => rfl) (fun _ => Nat.le_of_ble_eq_true rfl) ?_
                  refine z_nm (fun μ12 hμ12 => ?_)
                  obtain ⟨d14, hd14⟩ : ∃ q9 : zM, q9 = zup d11 (16 + (d 0 5)) 1 g := ⟨_, rfl⟩
                  have hd13 : vw μ12 b = d14 := by rw [hμ12, vw_upk (by unfold zrel; omega), hd10, hd14]
                  refine z_aload hC dX2_addCargo_103 rfl ?_
                  refine z_iload_n hC dX2_addCargo_105 rfl ?_
                  refine z_put hC iA_X0 rfl tyX0 tyX0_ok nmX0 2 (by decide) rfl rfl 2 rfl qF_X2_101 rfl dX2_addCargo_106 (cl_cargo hb (by omega)) (cd_cargo hb (by omega)) (fun _ => rfl) (fun _ => Nat.le_of_ble_eq_true rfl) ?_
                  refine z_nm (fun μ15 hμ15 => ?_)
                  obtain ⟨d17, hd17⟩ : ∃ q9 : zM, q9 = zup d14 (16 + (d 0 5)) 2 u := ⟨_, rfl⟩
                  have hd16 : vw μ15 b = d17 := by rw [hμ15, vw_upk (by unfold zrel; omega), hd13, hd17]
                  refine z_aload hC dX2_addCargo_109 rfl ?_
                  refine z_iload hC dX2_addCargo_111 rfl ?_
                  refine z_put hC iA_X0 rfl tyX0 tyX0_ok nmX0 3 (by decide) rfl rfl 3 rfl qF_X2_104 rfl dX2_addCargo_113 (cl_cargo hb (by omega)) (cd_cargo hb (by omega)) (fun _ => rfl) (fun _ => Nat.le_of_ble_eq_true rfl) ?_
                  refine z_nm (fun μ18 hμ18 => ?_)
                  obtain ⟨d20, hd20⟩ : ∃ q9 : zM, q9 = zup d17 (16 + (d 0 5)) 3 f := ⟨_, rfl⟩
                  have hd19 : vw μ18 b = d20 := by rw [hμ18, vw_upk (by unfold zrel; omega), hd16, hd20]
                  refine z_aload hC dX2_addCargo_116 rfl ?_
                  refine z_iload hC dX2_addCargo_118 rfl ?_
                  refine z_put hC iA_X0 rfl tyX0 tyX0_ok nmX0 4 (by decide) rfl rfl 4 rfl qF_X2_107 rfl dX2_addCargo_120 (cl_cargo hb (by omega)) (cd_cargo hb (by omega)) (fun _ => rfl) (fun _ => Nat.le_of_ble_eq_true rfl) ?_
                  refine z_nm (fun μ21 hμ21 => ?_)
                  obtain ⟨d23, hd23⟩ : ∃ q9 : zM, q9 = zup d20 (16 + (d 0 5)) 4 t := ⟨_, rfl⟩
                  have hd22 : vw μ21 b = d23 := by rw [hμ21, vw_upk (by unfold zrel; omega), hd19, hd23]
                  refine z_aload hC dX2_addCargo_123 rfl ?_
                  refine z_iload hC dX2_addCargo_125 rfl ?_
                  refine z_put hC iA_X0 rfl tyX0 tyX0_ok nmX0 5 (by decide) rfl rfl 5 rfl qF_X2_110 rfl dX2_addCargo_127 (cl_cargo hb (by omega)) (cd_cargo hb (by omega)) (fun _ => rfl) (fun _ => Nat.le_of_ble_eq_true rfl) ?_
                  refine z_nm (fun μ24 hμ24 => ?_)
                  obtain ⟨d26, hd26⟩ : ∃ q9 : zM, q9 = zup d23 (16 + (d 0 5)) 5 w := ⟨_, rfl⟩
                  have hd25 : vw μ24 b = d26 := by rw [hμ24, vw_upk (by unfold zrel; omega), hd22, hd26]
                  refine z_aload_n hC dX2_addCargo_130 rfl ?_
                  refine z_dup hC dX2_addCargo_131 rfl ?_
                  refine z_get hC iA_X2 rfl 5 (by decide) qF_X2_56 rfl dX2_addCargo_132 (cl_desk hb) (cd_desk hb) rfl ?_
                  refine z_top (b := d26 0 5) ((vw_Cn).symm.trans (congrFun (congrFun hd25 _) _)) ?_
                  refine z_top (b := d 0 5) (by rw [hd26, zup_n (by omega), hd23, zup_n (by omega), hd20, zup_n (by omega), hd17, zup_n (by omega), hd14, zup_n (by omega), hd11, zup_n (by omega)]) ?_
                  refine z_dup_x1 hC dX2_addCargo_135 rfl rfl ?_
                  refine z_iconst hC dX2_addCargo_136 ?_
                  refine z_iadd hC dX2_addCargo_137 ?_
                  refine z_put hC iA_X2 rfl tyX2 tyX2_ok nmX2 5 (by decide) rfl rfl 5 rfl qF_X2_56 rfl dX2_addCargo_138 (cl_desk hb) (cd_desk hb) (fun _ => rfl) (fun _ => Nat.le_of_ble_eq_true rfl) ?_
                  refine z_nm (fun μ27 hμ27 => ?_)
                  obtain ⟨d29, hd29⟩ : ∃ q9 : zM, q9 = zup d26 0 5 ((d 0 5) + 1) := ⟨_, rfl⟩
                  have hd28 : vw μ27 b = d29 := by rw [hμ27, vw_up0 (by unfold zrel; omega), hd25, hd29]
                  have e9 : opCargo d a g u f t w = (d 0 5, zup (zup (zup (zup (zup (zup (zup d (16 + (d 0 5)) 0 a) (16 + (d 0 5)) 1 g) (16 + (d 0 5)) 2 u) (16 + (d 0 5)) 3 f) (16 + (d 0 5)) 4 t) (16 + (d 0 5)) 5 w) 0 5 ((d 0 5) + 1)) := by
                    unfold opCargo
                    rw [if_neg (by omega), if_neg (by omega)]
                  exact z_iret hC dX2_addCargo_141 ⟨by rw [e9], by rw [e9, hd28, hd29, hd26, hd23, hd20, hd17, hd14, hd11], fun c9 hc9 => by rw [hμ27, zup_o (by omega), hμ24, zup_o (by omega), hμ21, zup_o (by omega), hμ18, zup_o (by omega), hμ15, zup_o (by omega), hμ12, zup_o (by omega), hμ9, zup_o (by omega)]⟩
                · refine z_ldc hC (-1000003) qc_X2_79 rfl dX2_addCargo_77 ?_
                  have e9 : opCargo d a g u f t w = ((-1000003), d) := by
                    unfold opCargo
                    rw [if_neg (by omega), if_pos (by omega)]
                  exact z_iret hC dX2_addCargo_79 ⟨by rw [e9], by rw [e9, hd], fun c9 hc9 => rfl⟩
              · refine z_ldc hC (-1000001) qc_X2_73 rfl dX2_addCargo_65 ?_
                have e9 : opCargo d a g u f t w = ((-1000001), d) := by
                  unfold opCargo
                  rw [if_pos (by omega)]
                exact z_iret hC dX2_addCargo_67 ⟨by rw [e9], by rw [e9, hd], fun c9 hc9 => rfl⟩

set_option maxHeartbeats 4000000 in
set_option maxRecDepth 100000 in
/-- dropFixtures(ship k, f, t) -/
theorem m_X2_dropFixtures (l : Launch) (G : va_G) (ca : Nat → ClassId) (ad : Int → Nat) (A : Nat → Prop) (μ : zM) (b : Int) (hb : zb b) (d : zM) (hd : vw μ b = d) (k f t : Int) (N : Nat) (hN : bN d) (hk : 0 ≤ k ∧ k < 5) (hf : 0 ≤ f) (hfN : f + (N : Int) = d (6 + k) 6) (hfc : d (6 + k) 6 ≤ 10) (ht : 0 ≤ t ∧ t ≤ 2) (hF : ∀ x, f ≤ x ∧ x < d (6 + k) 6 → 0 ≤ d (11 + k) x ∧ d (11 + k) x < d 0 5) : zMet l (cω G ca ad) A yX2_dropFixtures cX2_dropFixtures 5 none 1 21 [.ref (ad b), .ref (ad (b + 6 + k)), .int (iZ f), .int (iZ t)] μ (zpV (fun μ' => vw μ' b = zup (sDrop k t N f d) (6 + k) 6 f ∧ (∀ c, c < b + 6 ∨ b + 26 ≤ c → μ' c = μ c))) := by
  refine zMet_of (by decide) (Nat.le_of_ble_eq_true rfl) (fun Γ hC => ?_)
  show Z Γ _ μ 0 [(0, .ref (ad b)), (1, .ref (ad (b + 6 + k))), (2, .int (iZ f)), (3, .int (iZ t))] []
  obtain ⟨hN1, hN2⟩ := id hN
  refine z_iload_n hC dX2_dropFixtures_0 rfl ?_
  refine z_istore hC dX2_dropFixtures_1 (by decide) rfl ?_
  have LOOP : ∀ (r n : Nat), n + r = N → ∀ (μ1 d1 : zM) (x : Int), x = f + (n : Int) → vw μ1 b = d1 → sDrop k t r x d1 = sDrop k t N f d → (∀ o i, o < 16 → d1 o i = d o i) → (∀ c, c < b + 6 ∨ b + 26 ≤ c → μ1 c = μ c) → Z Γ (cω G ca ad) μ1 3 [(4, .int (iZ x)), (0, .ref (ad b)), (1, .ref (ad (b + 6 + k))), (2, .int (iZ f)), (3, .int (iZ t))] [] := by
    intro r
    induction r with
    | zero =>
      intro n hn μ1 d1 x hx hd1 hD ho1 hfr
      have hfc : d1 (6 + k) 6 = d (6 + k) 6 := ho1 _ _ (by omega)
      refine z_iload hC dX2_dropFixtures_3 rfl ?_
      refine z_aload_n hC dX2_dropFixtures_5 rfl ?_
      refine z_get hC iA_X6 rfl 6 (by decide) qF_X2_126 rfl dX2_dropFixtures_6 (cl_ship hb (by omega)) (cd_ship hb (by omega)) rfl ?_
      refine z_top (b := d1 (6 + k) 6) ((vw_ship (by omega) (by omega)).symm.trans (congrFun (congrFun hd1 _) _)) ?_
      refine z_icmp_ge hC 48 dX2_dropFixtures_9 (by decide) (by omega) (by omega) (fun c_1 => ?_) (fun c_1 => ?_)
      · refine z_aload_n hC dX2_dropFixtures_48 rfl ?_
        refine z_iload_n hC dX2_dropFixtures_49 rfl ?_
        refine z_put hC iA_X6 rfl tyX6 tyX6_ok nmX6 6 (by decide) rfl rfl 6 rfl qF_X2_126 rfl dX2_dropFixtures_50 (cl_ship hb (by omega)) (cd_ship hb (by omega)) (fun _ => rfl) (fun _ => Nat.le_of_ble_eq_true rfl) ?_
        refine z_nm (fun μ2 hμ2 => ?_)
        obtain ⟨d4, hd4⟩ : ∃ q9 : zM, q9 = zup d1 (6 + k) 6 f := ⟨_, rfl⟩
        have hd3 : vw μ2 b = d4 := by rw [hμ2, vw_upk (by unfold zrel; omega), hd1, hd4]
        obtain rfl : n = N := by omega
        exact z_vret hC dX2_dropFixtures_53 ⟨rfl, by rw [hd3, hd4]; exact congrArg (fun q => zup q (6 + k) 6 f) hD, fun c9 hc9 => by rw [hμ2, zup_o (by omega)]; exact hfr c9 hc9⟩
      · exfalso; omega
    | succ r ih =>
      intro n hn μ1 d1 x hx hd1 hD ho1 hfr
      have hfc : d1 (6 + k) 6 = d (6 + k) 6 := ho1 _ _ (by omega)
      have hcc : d1 0 5 = d 0 5 := ho1 _ _ (by omega)
      have hfx : d1 (11 + k) x = d (11 + k) x := ho1 _ _ (by omega)
      have hF1 := hF x (by omega)
      refine z_iload hC dX2_dropFixtures_3 rfl ?_
      refine z_aload_n hC dX2_dropFixtures_5 rfl ?_
      refine z_get hC iA_X6 rfl 6 (by decide) qF_X2_126 rfl dX2_dropFixtures_6 (cl_ship hb (by omega)) (cd_ship hb (by omega)) rfl ?_
      refine z_top (b := d1 (6 + k) 6) ((vw_ship (by omega) (by omega)).symm.trans (congrFun (congrFun hd1 _) _)) ?_
      refine z_icmp_ge hC 48 dX2_dropFixtures_9 (by decide) (by omega) (by omega) (fun c_5 => ?_) (fun c_5 => ?_)
      · exfalso; omega
      · refine z_aload_n hC dX2_dropFixtures_12 rfl ?_
        refine z_aload_n hC dX2_dropFixtures_13 rfl ?_
        refine z_get hC iA_X6 rfl 7 (by decide) qF_X2_129 rfl dX2_dropFixtures_14 (cl_ship hb (by omega)) (cd_ship hb (by omega)) rfl ?_
        refine z_iload hC dX2_dropFixtures_17 rfl ?_
        refine z_iald hC dX2_dropFixtures_19 (cl_fx hb (by omega)) (cd_fx hb (by omega)) (by omega) (by omega) (by decide) ?_
        refine z_top (b := d1 (11 + k) x) ((vw_fx (by omega) (by omega)).symm.trans (congrFun (congrFun hd1 _) _)) ?_
        have hN6 : μ1 b 5 = d1 0 5 := by rw [← hd1, vw_Cn]
        refine z_callV hC [.int (iZ (d1 (11 + k) x))] 1 rfl dX2_dropFixtures_20 (fun l => m_X2_isCargo l G ca ad _ μ1 b hb (d1 (11 + k) x) (by omega) (by omega)) qM_X2_116 qI_X2_isCargo qS_X2_isCargo qi_X2 qC_X2_isCargo (by decide +kernel) (by decide) (by decide) (cl_desk hb) (cd_desk hb) rfl (Nat.le_of_ble_eq_true rfl) (zk_pure ?_) rfl
        rw [hN6]
        refine z_ifb_eq hC 42 dX2_dropFixtures_23 (by decide) (fun c_7 => ?_) (fun c_7 => ?_)
        · exfalso; omega
        · refine z_aload_n hC dX2_dropFixtures_26 rfl ?_
          refine z_get hC iA_X2 rfl 3 (by decide) qF_X2_26 rfl dX2_dropFixtures_27 (cl_desk hb) (cd_desk hb) rfl ?_
          refine z_aload_n hC dX2_dropFixtures_30 rfl ?_
          refine z_get hC iA_X6 rfl 7 (by decide) qF_X2_129 rfl dX2_dropFixtures_31 (cl_ship hb (by omega)) (cd_ship hb (by omega)) rfl ?_
          refine z_iload hC dX2_dropFixtures_34 rfl ?_
          refine z_iald hC dX2_dropFixtures_36 (cl_fx hb (by omega)) (cd_fx hb (by omega)) (by omega) (by omega) (by decide) ?_
          refine z_top (b := d1 (11 + k) x) ((vw_fx (by omega) (by omega)).symm.trans (congrFun (congrFun hd1 _) _)) ?_
          refine z_aald hC dX2_dropFixtures_37 3 rfl (cl_cargoes hb) (fun _ i => b + 16 + i) (cd_cargoes hb) (by omega) (by omega) (by decide) ?_
          refine z_iload_n hC dX2_dropFixtures_38 rfl ?_
          refine z_put hC iA_X0 rfl tyX0 tyX0_ok nmX0 6 (by decide) rfl rfl 6 rfl qF_X2_119 rfl dX2_dropFixtures_39 (cl_cargo hb (by omega)) (cd_cargo hb (by omega)) (fun _ => rfl) (fun _ => Nat.le_of_ble_eq_true rfl) ?_
          refine z_nm (fun μ8 hμ8 => ?_)
          obtain ⟨d10, hd10⟩ : ∃ q9 : zM, q9 = zup d1 (16 + (d1 (11 + k) x)) 6 t := ⟨_, rfl⟩
          have hd9 : vw μ8 b = d10 := by rw [hμ8, vw_upk (by unfold zrel; omega), hd1, hd10]
          refine z_iinc hC dX2_dropFixtures_42 rfl (by decide) rfl ?_
          refine z_goto hC 3 dX2_dropFixtures_45 (by decide) ?_
          refine z_weak (L' := [(4, .int (iZ (x + 1))), (0, .ref (ad b)), (1, .ref (ad (b + 6 + k))), (2, .int (iZ f)), (3, .int (iZ t))]) ⟨rfl, rfl, rfl, rfl, rfl, trivial⟩ ?_
          exact ih (n + 1) (by omega) _ _ (x + 1) (by omega) hd9 (by rw [← hD, hd10]; rfl) (fun o i ho => by rw [hd10, zup_n (by omega)]; exact ho1 o i ho) (fun c9 hc9 => by rw [hμ8, zup_o (by omega)]; exact hfr c9 hc9)
  refine z_weak (L' := [(4, .int (iZ f)), (0, .ref (ad b)), (1, .ref (ad (b + 6 + k))), (2, .int (iZ f)), (3, .int (iZ t))]) ⟨rfl, rfl, rfl, rfl, rfl, trivial⟩ ?_
  exact LOOP N 0 (by omega) _ _ f (by omega) hd rfl (fun _ _ _ => rfl) (fun _ _ => rfl)
end
section
set_option maxHeartbeats 4000000 in
set_option maxRecDepth 100000 in
/-- opFix d k c -/
theorem m_X2_fixShip (l : Launch) (G : va_G) (ca : Nat → ClassId) (ad : Int → Nat) (A : Nat → Prop) (μ : zM) (b : Int) (hb : zb b) (d : zM) (hd : vw μ b = d) (k c : Int) (hk : -2147483648 ≤ k ∧ k ≤ 2147483647) (hc : -2147483648 ≤ c ∧ c ≤ 2147483647) (hB : bD d) (hG : ∀ k, 0 ≤ k ∧ k < d 0 4 → zGo d k (sNum d k)) (hfull : ∀ k c, 0 ≤ k ∧ k < d 0 4 → 0 ≤ c ∧ c < d 0 5 → d (16 + c) 6 = 0 → d (6 + k) 6 < 10) : zMet l (cω G ca ad) A yX2_fixShip cX2_fixShip 5 (some .int) 4 112 [.ref (ad b), .int (iZ k), .int (iZ c)] μ (zpI (.int (iZ (opFix d k c).1)) (fun μ' => vw μ' b = (opFix d k c).2 ∧ zFd μ b μ')) := by
  refine zMet_of (by decide) (Nat.le_of_ble_eq_true rfl) (fun Γ hC => ?_)
  show Z Γ _ μ 0 [(0, .ref (ad b)), (1, .int (iZ k)), (2, .int (iZ c))] []
  obtain ⟨hN, hP, hB3, hB4⟩ := id hB
  obtain ⟨hN1, hN2⟩ := id hN
  have hcb := sCould_b d k c
  refine z_aload_n hC dX2_fixShip_0 rfl ?_
  refine z_iload_n hC dX2_fixShip_1 rfl ?_
  have hN1 : μ b 4 = d 0 4 := by rw [← hd, vw_S]
  refine z_callV hC [.int (iZ k)] 1 rfl dX2_fixShip_2 (fun l => m_X2_isShip l G ca ad _ μ b hb k (by omega) (by omega)) qM_X2_113 qI_X2_isShip qS_X2_isShip qi_X2 qC_X2_isShip (by decide +kernel) (by decide) (by decide) (cl_desk hb) (cd_desk hb) rfl (Nat.le_of_ble_eq_true rfl) (zk_pure ?_) rfl
  rw [hN1]
  refine z_ifb_eq hC 16 dX2_fixShip_5 (by decide) (fun c_2 => ?_) (fun c_2 => ?_)
  · refine z_ldc hC (-1000001) qc_X2_73 rfl dX2_fixShip_16 ?_
    have e9 : opFix d k c = ((-1000001), d) := by
      unfold opFix
      rw [if_pos (by omega)]
    exact z_iret hC dX2_fixShip_18 ⟨by rw [e9], by rw [e9, hd], fun c9 hc9 => rfl⟩
  · refine z_aload_n hC dX2_fixShip_8 rfl ?_
    refine z_iload_n hC dX2_fixShip_9 rfl ?_
    have hN3 : μ b 5 = d 0 5 := by rw [← hd, vw_Cn]
    refine z_callV hC [.int (iZ c)] 1 rfl dX2_fixShip_10 (fun l => m_X2_isCargo l G ca ad _ μ b hb c (by omega) (by omega)) qM_X2_116 qI_X2_isCargo qS_X2_isCargo qi_X2 qC_X2_isCargo (by decide +kernel) (by decide) (by decide) (cl_desk hb) (cd_desk hb) rfl (Nat.le_of_ble_eq_true rfl) (zk_pure ?_) rfl
    rw [hN3]
    refine z_ifb_ne hC 19 dX2_fixShip_13 (by decide) (fun c_4 => ?_) (fun c_4 => ?_)
    · obtain ⟨hs0, hs1, hs2, hs3, hs4, hs6⟩ := hB3 k (by omega)
      obtain ⟨hq0, hq1, hq2, hq3, hq4, hq5, hq6⟩ := hB4 c (by omega)
      refine z_aload_n hC dX2_fixShip_19 rfl ?_
      refine z_get hC iA_X2 rfl 2 (by decide) qF_X2_20 rfl dX2_fixShip_20 (cl_desk hb) (cd_desk hb) rfl ?_
      refine z_iload_n hC dX2_fixShip_23 rfl ?_
      refine z_aald hC dX2_fixShip_24 2 rfl (cl_ships hb) (fun _ i => b + 6 + i) (cd_ships hb) (by omega) (by omega) (by decide) ?_
      refine z_astore_n hC dX2_fixShip_25 (by decide) rfl ?_
      refine z_aload_n hC dX2_fixShip_26 rfl ?_
      refine z_get hC iA_X2 rfl 3 (by decide) qF_X2_26 rfl dX2_fixShip_27 (cl_desk hb) (cd_desk hb) rfl ?_
      refine z_iload_n hC dX2_fixShip_30 rfl ?_
      refine z_aald hC dX2_fixShip_31 3 rfl (cl_cargoes hb) (fun _ i => b + 16 + i) (cd_cargoes hb) (by omega) (by omega) (by decide) ?_
      refine z_astore hC dX2_fixShip_32 (by decide) rfl ?_
      refine z_aload hC dX2_fixShip_34 rfl ?_
      refine z_get hC iA_X0 rfl 6 (by decide) qF_X2_119 rfl dX2_fixShip_36 (cl_cargo hb (by omega)) (cd_cargo hb (by omega)) rfl ?_
      refine z_top (b := d (16 + c) 6) ((vw_cargo (by omega) (by omega)).symm.trans (congrFun (congrFun hd _) _)) ?_
      refine z_if_ne hC 60 dX2_fixShip_39 (by decide) (by omega) (fun c_5 => ?_) (fun c_5 => ?_)
      · refine z_ldc hC (-1000002) qc_X2_78 rfl dX2_fixShip_60 ?_
        have e9 : opFix d k c = ((-1000002), d) := by
          unfold opFix
          rw [if_neg (by omega), if_pos (by omega)]
        exact z_iret hC dX2_fixShip_62 ⟨by rw [e9], by rw [e9, hd], fun c9 hc9 => rfl⟩
      · refine z_aload_n hC dX2_fixShip_42 rfl ?_
        refine z_iload_n hC dX2_fixShip_43 rfl ?_
        refine z_iload_n hC dX2_fixShip_44 rfl ?_
        refine z_callV hC [.int (iZ k), .int (iZ c)] 2 rfl dX2_fixShip_45 (fun l => m_X2_hindrance l G ca ad _ μ b hb d hd k c hB (by omega) (by omega) (hG _ (by omega))) qM_X2_122 qI_X2_hindrance qS_X2_hindrance qi_X2 qC_X2_hindrance (by decide +kernel) (by decide) (by decide) (cl_desk hb) (cd_desk hb) rfl (Nat.le_of_ble_eq_true rfl) (zk_int (fun μ6 hμ6 => ?_)) rfl
        obtain ⟨hμ6f, hμ60, hμ61, hμ62, hμ63, hμ64, hμ65, hμ66, hμ67⟩ := id hμ6
        have hd7 : vw μ6 b = d := by rw [vw_fr5 hμ6f]; exact hd
        refine z_if_ne hC 60 dX2_fixShip_48 (by decide) (by omega) (fun c_8 => ?_) (fun c_8 => ?_)
        · refine z_ldc hC (-1000002) qc_X2_78 rfl dX2_fixShip_60 ?_
          have e9 : opFix d k c = ((-1000002), d) := by
            unfold opFix
            rw [if_neg (by omega), if_pos (by omega)]
          exact z_iret hC dX2_fixShip_62 ⟨by rw [e9], by rw [e9, hd7], fun c9 hc9 => by rw [hμ6f c9 (by omega)]⟩
        · have hf9 := hfull k c (by omega) (by omega) (by omega)
          refine z_aload_n hC dX2_fixShip_51 rfl ?_
          refine z_get hC iA_X6 rfl 6 (by decide) qF_X2_126 rfl dX2_fixShip_52 (cl_ship hb (by omega)) (cd_ship hb (by omega)) rfl ?_
          refine z_top (b := d (6 + k) 6) ((vw_ship (by omega) (by omega)).symm.trans (congrFun (congrFun hd7 _) _)) ?_
          refine z_bipush hC dX2_fixShip_55 (by decide) ?_
          refine z_icmp_lt hC 63 dX2_fixShip_57 (by decide) (by omega) (by omega) (fun c_9 => ?_) (fun c_9 => ?_)
          · refine z_aload_n hC dX2_fixShip_63 rfl ?_
            refine z_get hC iA_X6 rfl 7 (by decide) qF_X2_129 rfl dX2_fixShip_64 (cl_ship hb (by omega)) (cd_ship hb (by omega)) rfl ?_
            refine z_aload_n hC dX2_fixShip_67 rfl ?_
            refine z_get hC iA_X6 rfl 6 (by decide) qF_X2_126 rfl dX2_fixShip_68 (cl_ship hb (by omega)) (cd_ship hb (by omega)) rfl ?_
            refine z_top (b := d (6 + k) 6) ((vw_ship (by omega) (by omega)).symm.trans (congrFun (congrFun hd7 _) _)) ?_
            refine z_iload_n hC dX2_fixShip_71 rfl ?_
            refine z_iast hC dX2_fixShip_72 (cl_fx hb (by omega)) (cd_fx hb (by omega)) (by omega) (by omega) (by decide) ?_
            refine z_nm (fun μ10 hμ10 => ?_)
            obtain ⟨d12, hd12⟩ : ∃ q9 : zM, q9 = zup d (11 + k) (d (6 + k) 6) c := ⟨_, rfl⟩
            have hd11 : vw μ10 b = d12 := by rw [hμ10, vw_upk (by unfold zrel; omega), hd7, hd12]
            refine z_aload_n hC dX2_fixShip_73 rfl ?_
            refine z_dup hC dX2_fixShip_74 rfl ?_
            refine z_get hC iA_X6 rfl 6 (by decide) qF_X2_126 rfl dX2_fixShip_75 (cl_ship hb (by omega)) (cd_ship hb (by omega)) rfl ?_
            refine z_top (b := d12 (6 + k) 6) ((vw_ship (by omega) (by omega)).symm.trans (congrFun (congrFun hd11 _) _)) ?_
            refine z_top (b := d (6 + k) 6) (by rw [hd12, zup_n (by omega)]) ?_
            refine z_iconst hC dX2_fixShip_78 ?_
            refine z_iadd hC dX2_fixShip_79 ?_
            refine z_put hC iA_X6 rfl tyX6 tyX6_ok nmX6 6 (by decide) rfl rfl 6 rfl qF_X2_126 rfl dX2_fixShip_80 (cl_ship hb (by omega)) (cd_ship hb (by omega)) (fun _ => rfl) (fun _ => Nat.le_of_ble_eq_true rfl) ?_
            refine z_nm (fun μ13 hμ13 => ?_)
            obtain ⟨d15, hd15⟩ : ∃ q9 : zM, q9 = zup d12 (6 + k) 6 ((d (6 + k) 6) + 1) := ⟨_, rfl⟩
            have hd14 : vw μ13 b = d15 := by rw [hμ13, vw_upk (by unfold zrel; omega), hd11, hd15]
            refine z_aload hC dX2_fixShip_83 rfl ?_
            refine z_iconst hC dX2_fixShip_85 ?_
            refine z_put hC iA_X0 rfl tyX0 tyX0_ok nmX0 6 (by decide) rfl rfl 6 rfl qF_X2_119 rfl dX2_fixShip_86 (cl_cargo hb (by omega)) (cd_cargo hb (by omega)) (fun _ => rfl) (fun _ => Nat.le_of_ble_eq_true rfl) ?_
            refine z_nm (fun μ16 hμ16 => ?_)
            obtain ⟨d18, hd18⟩ : ∃ q9 : zM, q9 = zup d15 (16 + c) 6 1 := ⟨_, rfl⟩
            have hd17 : vw μ16 b = d18 := by rw [hμ16, vw_upk (by unfold zrel; omega), hd14, hd18]
            refine z_aload hC dX2_fixShip_89 rfl ?_
            refine z_iload_n hC dX2_fixShip_91 rfl ?_
            refine z_put hC iA_X0 rfl tyX0 tyX0_ok nmX0 7 (by decide) rfl rfl 7 rfl qF_X2_132 rfl dX2_fixShip_92 (cl_cargo hb (by omega)) (cd_cargo hb (by omega)) (fun _ => rfl) (fun _ => Nat.le_of_ble_eq_true rfl) ?_
            refine z_nm (fun μ19 hμ19 => ?_)
            obtain ⟨d21, hd21⟩ : ∃ q9 : zM, q9 = zup d18 (16 + c) 7 k := ⟨_, rfl⟩
            have hd20 : vw μ19 b = d21 := by rw [hμ19, vw_upk (by unfold zrel; omega), hd17, hd21]
            refine z_aload_n hC dX2_fixShip_95 rfl ?_
            refine z_get hC iA_X2 rfl 8 (by decide) qF_X2_33 rfl dX2_fixShip_96 (cl_desk hb) (cd_desk hb) rfl ?_
            refine z_get hC iA_X1 rfl 1 (by decide) qF_X2_135 rfl dX2_fixShip_99 (cl_course hb) (cd_course hb) rfl ?_
            refine z_top (b := sFree d k c (sEnd d k).1 (sEnd d k).2.1) (by rw [hμ19, zup_n (by omega), hμ16, zup_n (by omega), hμ13, zup_n (by omega), hμ10, zup_n (by omega), hμ61]) ?_
            have e9 : opFix d k c = (sFree d k c (sEnd d k).1 (sEnd d k).2.1, zup (zup (zup (zup d (11 + k) (d (6 + k) 6) c) (6 + k) 6 ((d (6 + k) 6) + 1)) (16 + c) 6 1) (16 + c) 7 k) := by
              unfold opFix
              rw [if_neg (by omega), if_neg (by omega)]
            exact z_iret hC dX2_fixShip_102 ⟨by rw [e9], by rw [e9, hd20, hd21, hd18, hd15, hd12], fun c9 hc9 => by rw [hμ19, zup_o (by omega), hμ16, zup_o (by omega), hμ13, zup_o (by omega), hμ10, zup_o (by omega), hμ6f c9 (by omega)]⟩
          · exfalso; omega
    · refine z_ldc hC (-1000001) qc_X2_73 rfl dX2_fixShip_16 ?_
      have e9 : opFix d k c = ((-1000001), d) := by
        unfold opFix
        rw [if_pos (by omega)]
      exact z_iret hC dX2_fixShip_18 ⟨by rw [e9], by rw [e9, hd], fun c9 hc9 => rfl⟩

set_option maxHeartbeats 4000000 in
set_option maxRecDepth 100000 in
/-- opOff d k -/
theorem m_X2_callOffLast (l : Launch) (G : va_G) (ca : Nat → ClassId) (ad : Int → Nat) (A : Nat → Prop) (μ : zM) (b : Int) (hb : zb b) (d : zM) (hd : vw μ b = d) (k : Int) (hk : -2147483648 ≤ k ∧ k ≤ 2147483647) (hB : bD d) (hF : ∀ k, 0 ≤ k ∧ k < d 0 4 → ∀ x, 0 ≤ x ∧ x < d (6 + k) 6 → 0 ≤ d (11 + k) x ∧ d (11 + k) x < d 0 5) : zMet l (cω G ca ad) A yX2_callOffLast cX2_callOffLast 5 (some .int) 2 45 [.ref (ad b), .int (iZ k)] μ (zpI (.int (iZ (opOff d k).1)) (fun μ' => vw μ' b = (opOff d k).2 ∧ zFd μ b μ')) := by
  refine zMet_of (by decide) (Nat.le_of_ble_eq_true rfl) (fun Γ hC => ?_)
  show Z Γ _ μ 0 [(0, .ref (ad b)), (1, .int (iZ k))] []
  obtain ⟨hN, hP, hB3, hB4⟩ := id hB
  obtain ⟨hN1, hN2⟩ := id hN
  have hN9 := hN
  refine z_aload_n hC dX2_callOffLast_0 rfl ?_
  refine z_iload_n hC dX2_callOffLast_1 rfl ?_
  have hN1 : μ b 4 = d 0 4 := by rw [← hd, vw_S]
  refine z_callV hC [.int (iZ k)] 1 rfl dX2_callOffLast_2 (fun l => m_X2_isShip l G ca ad _ μ b hb k (by omega) (by omega)) qM_X2_113 qI_X2_isShip qS_X2_isShip qi_X2 qC_X2_isShip (by decide +kernel) (by decide) (by decide) (cl_desk hb) (cd_desk hb) rfl (Nat.le_of_ble_eq_true rfl) (zk_pure ?_) rfl
  rw [hN1]
  refine z_ifb_ne hC 11 dX2_callOffLast_5 (by decide) (fun c_2 => ?_) (fun c_2 => ?_)
  · obtain ⟨hs0, hs1, hs2, hs3, hs4, hs6⟩ := hB3 k (by omega)
    refine z_aload_n hC dX2_callOffLast_11 rfl ?_
    refine z_get hC iA_X2 rfl 2 (by decide) qF_X2_20 rfl dX2_callOffLast_12 (cl_desk hb) (cd_desk hb) rfl ?_
    refine z_iload_n hC dX2_callOffLast_15 rfl ?_
    refine z_aald hC dX2_callOffLast_16 2 rfl (cl_ships hb) (fun _ i => b + 6 + i) (cd_ships hb) (by omega) (by omega) (by decide) ?_
    refine z_astore_n hC dX2_callOffLast_17 (by decide) rfl ?_
    refine z_aload_n hC dX2_callOffLast_18 rfl ?_
    refine z_get hC iA_X6 rfl 6 (by decide) qF_X2_126 rfl dX2_callOffLast_19 (cl_ship hb (by omega)) (cd_ship hb (by omega)) rfl ?_
    refine z_top (b := d (6 + k) 6) ((vw_ship (by omega) (by omega)).symm.trans (congrFun (congrFun hd _) _)) ?_
    refine z_iconst hC dX2_callOffLast_22 ?_
    refine z_isub hC dX2_callOffLast_23 ?_
    refine z_istore_n hC dX2_callOffLast_24 (by decide) rfl ?_
    refine z_iload_n hC dX2_callOffLast_25 rfl ?_
    refine z_if_lt hC 42 dX2_callOffLast_26 (by decide) (by omega) (fun c_3 => ?_) (fun c_3 => ?_)
    · refine z_ldc hC (-1000002) qc_X2_78 rfl dX2_callOffLast_42 ?_
      have e9 : opOff d k = ((-1000002), d) := by
        unfold opOff
        rw [if_neg (by omega), if_pos (by omega)]
      exact z_iret hC dX2_callOffLast_44 ⟨by rw [e9], by rw [e9, hd], fun c9 hc9 => rfl⟩
    · have hx9 := hF k (by omega) (d (6 + k) 6 - 1) (by omega)
      have hw9 := worth_b (hB4 _ hx9)
      refine z_aload_n hC dX2_callOffLast_29 rfl ?_
      refine z_aload_n hC dX2_callOffLast_30 rfl ?_
      refine z_get hC iA_X6 rfl 7 (by decide) qF_X2_129 rfl dX2_callOffLast_31 (cl_ship hb (by omega)) (cd_ship hb (by omega)) rfl ?_
      refine z_iload_n hC dX2_callOffLast_34 rfl ?_
      refine z_iald hC dX2_callOffLast_35 (cl_fx hb (by omega)) (cd_fx hb (by omega)) (by omega) (by omega) (by decide) ?_
      refine z_top (b := d (11 + k) ((d (6 + k) 6) - 1)) ((vw_fx (by omega) (by omega)).symm.trans (congrFun (congrFun hd _) _)) ?_
      have hN4 : μ b 5 = d 0 5 := by rw [← hd, vw_Cn]
      refine z_callV hC [.int (iZ (d (11 + k) ((d (6 + k) 6) - 1)))] 1 rfl dX2_callOffLast_36 (fun l => m_X2_isCargo l G ca ad _ μ b hb (d (11 + k) ((d (6 + k) 6) - 1)) (by omega) (by omega)) qM_X2_116 qI_X2_isCargo qS_X2_isCargo qi_X2 qC_X2_isCargo (by decide +kernel) (by decide) (by decide) (cl_desk hb) (cd_desk hb) rfl (Nat.le_of_ble_eq_true rfl) (zk_pure ?_) rfl
      rw [hN4]
      refine z_ifb_ne hC 45 dX2_callOffLast_39 (by decide) (fun c_5 => ?_) (fun c_5 => ?_)
      · refine z_aload_n hC dX2_callOffLast_45 rfl ?_
        refine z_get hC iA_X2 rfl 3 (by decide) qF_X2_26 rfl dX2_callOffLast_46 (cl_desk hb) (cd_desk hb) rfl ?_
        refine z_aload_n hC dX2_callOffLast_49 rfl ?_
        refine z_get hC iA_X6 rfl 7 (by decide) qF_X2_129 rfl dX2_callOffLast_50 (cl_ship hb (by omega)) (cd_ship hb (by omega)) rfl ?_
        refine z_iload_n hC dX2_callOffLast_53 rfl ?_
        refine z_iald hC dX2_callOffLast_54 (cl_fx hb (by omega)) (cd_fx hb (by omega)) (by omega) (by omega) (by decide) ?_
        refine z_top (b := d (11 + k) ((d (6 + k) 6) - 1)) ((vw_fx (by omega) (by omega)).symm.trans (congrFun (congrFun hd _) _)) ?_
        refine z_aald hC dX2_callOffLast_55 3 rfl (cl_cargoes hb) (fun _ i => b + 16 + i) (cd_cargoes hb) (by omega) (by omega) (by decide) ?_
        refine z_callV hC [] 0 rfl dX2_callOffLast_56 (fun l => m_X0_worth l G ca ad _ μ b hb (d (11 + k) ((d (6 + k) 6) - 1)) (by omega)) qM_X2_145 qI_X0_worth qS_X0_worth qi_X0 qC_X0_worth (by decide +kernel) (by decide) (by decide) (cl_cargo hb (by omega)) (cd_cargo hb (by omega)) rfl (Nat.le_of_ble_eq_true rfl) (zk_pure ?_) rfl
        refine z_top (b := d (16 + (d (11 + k) ((d (6 + k) 6) - 1))) 0 * d (16 + (d (11 + k) ((d (6 + k) 6) - 1))) 5) (congr (congrArg HMul.hMul ((vw_cargo (by omega) (by omega)).symm.trans (congrFun (congrFun hd _) _))) ((vw_cargo (by omega) (by omega)).symm.trans (congrFun (congrFun hd _) _))) ?_
        refine z_bipush hC dX2_callOffLast_59 (by decide) ?_
        refine z_callSN hC [.int (iZ (d (16 + (d (11 + k) ((d (6 + k) 6) - 1))) 0 * d (16 + (d (11 + k) ((d (6 + k) 6) - 1))) 5)), .int (iZ 10)] 2 rfl dX2_callOffLast_61 (fun l => m_X7_divideUp l _ _ _ (d (16 + (d (11 + k) ((d (6 + k) 6) - 1))) 0 * d (16 + (d (11 + k) ((d (6 + k) 6) - 1))) 5) 10 (by omega) (by omega)) (by decide +kernel) qT_X7_divideUp qi_X7 qC_X7_divideUp (by decide +kernel) (by decide) (by decide) (Nat.le_of_ble_eq_true rfl) (zk_pure ?_) rfl
        refine z_top (b := sPay d (d (11 + k) (d (6 + k) 6 - 1))) rfl ?_
        refine z_istore hC dX2_callOffLast_64 (by decide) rfl ?_
        refine z_aload_n hC dX2_callOffLast_66 rfl ?_
        refine z_aload_n hC dX2_callOffLast_67 rfl ?_
        refine z_iload_n hC dX2_callOffLast_68 rfl ?_
        refine z_iconst hC dX2_callOffLast_69 ?_
        refine z_callV hC [.ref (ad (b + 6 + k)), .int (iZ ((d (6 + k) 6) - 1)), .int (iZ 0)] 3 rfl dX2_callOffLast_70 (fun l => m_X2_dropFixtures l G ca ad _ μ b hb d hd k ((d (6 + k) 6) - 1) 0 1 hN9 (by omega) (by omega) (by omega) (by omega) (by omega) (fun x hx => hF k (by omega) x (by omega))) qM_X2_141 qI_X2_dropFixtures qS_X2_dropFixtures qi_X2 qC_X2_dropFixtures (by decide +kernel) (by decide) (by decide) (cl_desk hb) (cd_desk hb) rfl (Nat.le_of_ble_eq_true rfl) (zk_void (fun μ6 hμ6 => ?_)) rfl
        obtain ⟨hμ6v, hμ6f⟩ := id hμ6
        obtain ⟨d8, hd8⟩ : ∃ q9 : zM, q9 = zup (sDrop k 0 1 ((d (6 + k) 6) - 1) d) (6 + k) 6 ((d (6 + k) 6) - 1) := ⟨_, rfl⟩
        have hd7 : vw μ6 b = d8 := by rw [hd8]; exact hμ6v
        refine z_aload_n hC dX2_callOffLast_73 rfl ?_
        refine z_dup hC dX2_callOffLast_74 rfl ?_
        refine z_get hC iA_X6 rfl 5 (by decide) qF_X2_152 rfl dX2_callOffLast_75 (cl_ship hb (by omega)) (cd_ship hb (by omega)) rfl ?_
        refine z_top (b := d8 (6 + k) 5) ((vw_ship (by omega) (by omega)).symm.trans (congrFun (congrFun hd7 _) _)) ?_
        refine z_top (b := (sDrop k 0 1 ((d (6 + k) 6) - 1) d) (6 + k) 5) (by rw [hd8, zup_n (by omega)]) ?_
        refine z_top (b := d (6 + k) 5) (by rw [sDrop_o _ _ _ _ _ (by omega) (fun j hj => (hF k (by omega) j (by omega)).1) (by omega)]) ?_
        refine z_iload hC dX2_callOffLast_78 rfl ?_
        refine z_isub hC dX2_callOffLast_80 ?_
        refine z_put hC iA_X6 rfl tyX6 tyX6_ok nmX6 5 (by decide) rfl rfl 5 rfl qF_X2_152 rfl dX2_callOffLast_81 (cl_ship hb (by omega)) (cd_ship hb (by omega)) (fun _ => rfl) (fun _ => Nat.le_of_ble_eq_true rfl) ?_
        refine z_nm (fun μ9 hμ9 => ?_)
        obtain ⟨d11, hd11⟩ : ∃ q9 : zM, q9 = zup d8 (6 + k) 5 ((d (6 + k) 5) - (sPay d (d (11 + k) (d (6 + k) 6 - 1)))) := ⟨_, rfl⟩
        have hd10 : vw μ9 b = d11 := by rw [hμ9, vw_upk (by unfold zrel; omega), hd7, hd11]
        refine z_aload_n hC dX2_callOffLast_84 rfl ?_
        refine z_dup hC dX2_callOffLast_85 rfl ?_
        refine z_get hC iA_X2 rfl 7 (by decide) qF_X2_62 rfl dX2_callOffLast_86 (cl_desk hb) (cd_desk hb) rfl ?_
        refine z_top (b := d11 0 7) ((vw_off).symm.trans (congrFun (congrFun hd10 _) _)) ?_
        refine z_top (b := (sDrop k 0 1 ((d (6 + k) 6) - 1) d) 0 7) (by rw [hd11, zup_n (by omega), hd8, zup_n (by omega)]) ?_
        refine z_top (b := d 0 7) (by rw [sDrop_o _ _ _ _ _ (by omega) (fun j hj => (hF k (by omega) j (by omega)).1) (by omega)]) ?_
        refine z_iconst hC dX2_callOffLast_89 ?_
        refine z_iadd hC dX2_callOffLast_90 ?_
        refine z_put hC iA_X2 rfl tyX2 tyX2_ok nmX2 7 (by decide) rfl rfl 7 rfl qF_X2_62 rfl dX2_callOffLast_91 (cl_desk hb) (cd_desk hb) (fun _ => rfl) (fun _ => Nat.le_of_ble_eq_true rfl) ?_
        refine z_nm (fun μ12 hμ12 => ?_)
        obtain ⟨d14, hd14⟩ : ∃ q9 : zM, q9 = zup d11 0 7 ((d 0 7) + 1) := ⟨_, rfl⟩
        have hd13 : vw μ12 b = d14 := by rw [hμ12, vw_up0 (by unfold zrel; omega), hd10, hd14]
        refine z_iload hC dX2_callOffLast_94 rfl ?_
        have e9 : opOff d k = (sPay d (d (11 + k) (d (6 + k) 6 - 1)), zup (zup (zup (sDrop k 0 1 ((d (6 + k) 6) - 1) d) (6 + k) 6 ((d (6 + k) 6) - 1)) (6 + k) 5 ((d (6 + k) 5) - (sPay d (d (11 + k) (d (6 + k) 6 - 1))))) 0 7 ((d 0 7) + 1)) := by
          unfold opOff
          rw [if_neg (by omega), if_neg (by omega)]
        exact z_iret hC dX2_callOffLast_96 ⟨by rw [e9], by rw [e9, hd13, hd14, hd11, hd8], fun c9 hc9 => by rw [hμ12, zup_o (by omega), hμ9, zup_o (by omega), hμ6f c9 (by omega)]⟩
      · exfalso; omega
  · refine z_ldc hC (-1000001) qc_X2_73 rfl dX2_callOffLast_8 ?_
    have e9 : opOff d k = ((-1000001), d) := by
      unfold opOff
      rw [if_pos (by omega)]
    exact z_iret hC dX2_callOffLast_10 ⟨by rw [e9], by rw [e9, hd], fun c9 hc9 => rfl⟩

set_option maxHeartbeats 4000000 in
set_option maxRecDepth 100000 in
/-- opSettle d k -/
theorem m_X2_settleShip (l : Launch) (G : va_G) (ca : Nat → ClassId) (ad : Int → Nat) (A : Nat → Prop) (μ : zM) (b : Int) (hb : zb b) (d : zM) (hd : vw μ b = d) (k : Int) (hk : -2147483648 ≤ k ∧ k ≤ 2147483647) (hB : bD d) (hG : ∀ k, 0 ≤ k ∧ k < d 0 4 → zGo d k (sNum d k)) (hF : ∀ k, 0 ≤ k ∧ k < d 0 4 → ∀ x, 0 ≤ x ∧ x < d (6 + k) 6 → 0 ≤ d (11 + k) x ∧ d (11 + k) x < d 0 5) : zMet l (cω G ca ad) A yX2_settleShip cX2_settleShip 3 (some .int) 4 111 [.ref (ad b), .int (iZ k)] μ (zpI (.int (iZ (opSettle d k).1)) (fun μ' => vw μ' b = (opSettle d k).2 ∧ zFd μ b μ')) := by
  refine zMet_of (by decide) (Nat.le_of_ble_eq_true rfl) (fun Γ hC => ?_)
  show Z Γ _ μ 0 [(0, .ref (ad b)), (1, .int (iZ k))] []
  obtain ⟨hN, hP, hB3, hB4⟩ := id hB
  obtain ⟨hN1, hN2⟩ := id hN
  refine z_aload_n hC dX2_settleShip_0 rfl ?_
  refine z_iload_n hC dX2_settleShip_1 rfl ?_
  have hN1 : μ b 4 = d 0 4 := by rw [← hd, vw_S]
  refine z_callV hC [.int (iZ k)] 1 rfl dX2_settleShip_2 (fun l => m_X2_isShip l G ca ad _ μ b hb k (by omega) (by omega)) qM_X2_113 qI_X2_isShip qS_X2_isShip qi_X2 qC_X2_isShip (by decide +kernel) (by decide) (by decide) (cl_desk hb) (cd_desk hb) rfl (Nat.le_of_ble_eq_true rfl) (zk_pure ?_) rfl
  rw [hN1]
  refine z_ifb_ne hC 11 dX2_settleShip_5 (by decide) (fun c_2 => ?_) (fun c_2 => ?_)
  · obtain ⟨hs0, hs1, hs2, hs3, hs4, hs6⟩ := hB3 k (by omega)
    refine z_aload_n hC dX2_settleShip_11 rfl ?_
    refine z_get hC iA_X2 rfl 2 (by decide) qF_X2_20 rfl dX2_settleShip_12 (cl_desk hb) (cd_desk hb) rfl ?_
    refine z_iload_n hC dX2_settleShip_15 rfl ?_
    refine z_aald hC dX2_settleShip_16 2 rfl (cl_ships hb) (fun _ i => b + 6 + i) (cd_ships hb) (by omega) (by omega) (by decide) ?_
    refine z_astore_n hC dX2_settleShip_17 (by decide) rfl ?_
    refine z_aload_n hC dX2_settleShip_18 rfl ?_
    refine z_get hC iA_X6 rfl 6 (by decide) qF_X2_126 rfl dX2_settleShip_19 (cl_ship hb (by omega)) (cd_ship hb (by omega)) rfl ?_
    refine z_top (b := d (6 + k) 6) ((vw_ship (by omega) (by omega)).symm.trans (congrFun (congrFun hd _) _)) ?_
    refine z_if_ne hC 28 dX2_settleShip_22 (by decide) (by omega) (fun c_3 => ?_) (fun c_3 => ?_)
    · refine z_aload_n hC dX2_settleShip_28 rfl ?_
      refine z_iload_n hC dX2_settleShip_29 rfl ?_
      refine z_callV hC [.int (iZ k)] 1 rfl dX2_settleShip_30 (fun l => m_X2_followAll l G ca ad _ μ b hb d hd k hB (by omega) (hG _ (by omega))) qM_X2_155 qI_X2_followAll qS_X2_followAll qi_X2 qC_X2_followAll (by decide +kernel) (by decide) (by decide) (cl_desk hb) (cd_desk hb) rfl (Nat.le_of_ble_eq_true rfl) (zk_int (fun μ4 hμ4 => ?_)) rfl
      obtain ⟨hμ4f, hμ40, hμ41, hμ46, hμ4m⟩ := id hμ4
      have hμ40 : μ4 (b + 5) 0 = (sEnd d k).1 := hμ40
      have hμ41 : μ4 (b + 5) 1 = (sEnd d k).2.1 := hμ41
      have hμ46 : μ4 (b + 5) 6 = (sEnd d k).2.2 := hμ46
      have hd5 : vw μ4 b = d := by rw [vw_fr5 hμ4f]; exact hd
      refine z_pop hC dX2_settleShip_33 rfl ?_
      refine z_aload_n hC dX2_settleShip_34 rfl ?_
      refine z_dup hC dX2_settleShip_35 rfl ?_
      refine z_get hC iA_X6 rfl 5 (by decide) qF_X2_152 rfl dX2_settleShip_36 (cl_ship hb (by omega)) (cd_ship hb (by omega)) rfl ?_
      refine z_top (b := d (6 + k) 5) ((vw_ship (by omega) (by omega)).symm.trans (congrFun (congrFun hd5 _) _)) ?_
      refine z_aload_n hC dX2_settleShip_39 rfl ?_
      refine z_get hC iA_X2 rfl 8 (by decide) qF_X2_33 rfl dX2_settleShip_40 (cl_desk hb) (cd_desk hb) rfl ?_
      refine z_get hC iA_X1 rfl 6 (by decide) qF_X2_159 rfl dX2_settleShip_43 (cl_course hb) (cd_course hb) rfl ?_
      refine z_top (b := (sEnd d k).2.2) (by rw [hμ46]) ?_
      refine z_iadd hC dX2_settleShip_46 ?_
      refine z_put hC iA_X6 rfl tyX6 tyX6_ok nmX6 5 (by decide) rfl rfl 5 rfl qF_X2_152 rfl dX2_settleShip_47 (cl_ship hb (by omega)) (cd_ship hb (by omega)) (fun _ => rfl) (fun _ => Nat.le_of_ble_eq_true rfl) ?_
      refine z_nm (fun μ6 hμ6 => ?_)
      obtain ⟨d8, hd8⟩ : ∃ q9 : zM, q9 = zup d (6 + k) 5 ((d (6 + k) 5) + ((sEnd d k).2.2)) := ⟨_, rfl⟩
      have hd7 : vw μ6 b = d8 := by rw [hμ6, vw_upk (by unfold zrel; omega), hd5, hd8]
      refine z_aload_n hC dX2_settleShip_50 rfl ?_
      refine z_aload_n hC dX2_settleShip_51 rfl ?_
      refine z_get hC iA_X2 rfl 8 (by decide) qF_X2_33 rfl dX2_settleShip_52 (cl_desk hb) (cd_desk hb) rfl ?_
      refine z_get hC iA_X1 rfl 0 (by decide) qF_X2_162 rfl dX2_settleShip_55 (cl_course hb) (cd_course hb) rfl ?_
      refine z_top (b := (sEnd d k).1) (by rw [hμ6, zup_n (by omega), hμ40]) ?_
      refine z_put hC iA_X6 rfl tyX6 tyX6_ok nmX6 3 (by decide) rfl rfl 3 rfl qF_X2_89 rfl dX2_settleShip_58 (cl_ship hb (by omega)) (cd_ship hb (by omega)) (fun _ => rfl) (fun _ => Nat.le_of_ble_eq_true rfl) ?_
      refine z_nm (fun μ9 hμ9 => ?_)
      obtain ⟨d11, hd11⟩ : ∃ q9 : zM, q9 = zup d8 (6 + k) 3 ((sEnd d k).1) := ⟨_, rfl⟩
      have hd10 : vw μ9 b = d11 := by rw [hμ9, vw_upk (by unfold zrel; omega), hd7, hd11]
      refine z_aload_n hC dX2_settleShip_61 rfl ?_
      refine z_aload_n hC dX2_settleShip_62 rfl ?_
      refine z_get hC iA_X2 rfl 8 (by decide) qF_X2_33 rfl dX2_settleShip_63 (cl_desk hb) (cd_desk hb) rfl ?_
      refine z_get hC iA_X1 rfl 1 (by decide) qF_X2_135 rfl dX2_settleShip_66 (cl_course hb) (cd_course hb) rfl ?_
      refine z_top (b := (sEnd d k).2.1) (by rw [hμ9, zup_n (by omega), hμ6, zup_n (by omega), hμ41]) ?_
      refine z_put hC iA_X6 rfl tyX6 tyX6_ok nmX6 4 (by decide) rfl rfl 4 rfl qF_X2_92 rfl dX2_settleShip_69 (cl_ship hb (by omega)) (cd_ship hb (by omega)) (fun _ => rfl) (fun _ => Nat.le_of_ble_eq_true rfl) ?_
      refine z_nm (fun μ12 hμ12 => ?_)
      obtain ⟨d14, hd14⟩ : ∃ q9 : zM, q9 = zup d11 (6 + k) 4 ((sEnd d k).2.1) := ⟨_, rfl⟩
      have hd13 : vw μ12 b = d14 := by rw [hμ12, vw_upk (by unfold zrel; omega), hd10, hd14]
      have eo : ∀ o i, (o ≠ 6 + k ∨ (i ≠ 3 ∧ i ≠ 4 ∧ i ≠ 5)) → d14 o i = d o i := fun o i q => by rw [hd14, zup_n (by omega), hd11, zup_n (by omega), hd8, zup_n (by omega)]
      have hN9 : bN d14 := by unfold bN; rw [eo 0 4 (by omega), eo 0 5 (by omega)]; exact hN
      have hf6 : d14 (6 + k) 6 = d (6 + k) 6 := eo _ _ (by omega)
      have hNe := sNum_e (d := d) (k := k) (by omega)
      refine z_aload_n hC dX2_settleShip_72 rfl ?_
      refine z_aload_n hC dX2_settleShip_73 rfl ?_
      refine z_iconst hC dX2_settleShip_74 ?_
      refine z_iconst hC dX2_settleShip_75 ?_
      refine z_callV hC [.ref (ad (b + 6 + k)), .int (iZ 0), .int (iZ 2)] 3 rfl dX2_settleShip_76 (fun l => m_X2_dropFixtures l G ca ad _ μ12 b hb d14 hd13 k 0 2 (sNum d k) hN9 (by omega) (by omega) (by omega) (by omega) (by omega) (fun x hx => by rw [eo (11 + k) x (by omega), eo 0 5 (by omega)]; exact hF k (by omega) x (by omega))) qM_X2_141 qI_X2_dropFixtures qS_X2_dropFixtures qi_X2 qC_X2_dropFixtures (by decide +kernel) (by decide) (by decide) (cl_desk hb) (cd_desk hb) rfl (Nat.le_of_ble_eq_true rfl) (zk_void (fun μ15 hμ15 => ?_)) rfl
      obtain ⟨hμ15v, hμ15f⟩ := id hμ15
      obtain ⟨d17, hd17⟩ : ∃ q9 : zM, q9 = zup (sDrop k 2 (sNum d k) 0 d14) (6 + k) 6 0 := ⟨_, rfl⟩
      have hd16 : vw μ15 b = d17 := by rw [hd17]; exact hμ15v
      refine z_aload_n hC dX2_settleShip_79 rfl ?_
      refine z_get hC iA_X2 rfl 8 (by decide) qF_X2_33 rfl dX2_settleShip_80 (cl_desk hb) (cd_desk hb) rfl ?_
      refine z_get hC iA_X1 rfl 6 (by decide) qF_X2_159 rfl dX2_settleShip_83 (cl_course hb) (cd_course hb) rfl ?_
      refine z_top (b := (sEnd d k).2.2) (by rw [hμ15f (b + 5) (by omega), hμ12, zup_n (by omega), hμ9, zup_n (by omega), hμ6, zup_n (by omega), hμ46]) ?_
      refine z_ldc hC (1000000) qc_X2_165 rfl dX2_settleShip_86 ?_
      refine z_iadd hC dX2_settleShip_88 ?_
      have e9 : opSettle d k = (((sEnd d k).2.2) + (1000000), zup (sDrop k 2 (sNum d k) 0 d14) (6 + k) 6 0) := by
        unfold opSettle
        rw [if_neg (by omega), if_neg (by omega)]
        rw [hd14, hd11, hd8]
      exact z_iret hC dX2_settleShip_89 ⟨by rw [e9], by rw [e9, hd16, hd17, hd14, hd11, hd8], fun c9 hc9 => by rw [hμ15f c9 (by omega), hμ12, zup_o (by omega), hμ9, zup_o (by omega), hμ6, zup_o (by omega), hμ4f c9 (by omega)]⟩
    · refine z_ldc hC (-1000002) qc_X2_78 rfl dX2_settleShip_25 ?_
      have e9 : opSettle d k = ((-1000002), d) := by
        unfold opSettle
        rw [if_neg (by omega), if_pos (by omega)]
      exact z_iret hC dX2_settleShip_27 ⟨by rw [e9], by rw [e9, hd], fun c9 hc9 => rfl⟩
  · refine z_ldc hC (-1000001) qc_X2_73 rfl dX2_settleShip_8 ?_
    have e9 : opSettle d k = ((-1000001), d) := by
      unfold opSettle
      rw [if_pos (by omega)]
    exact z_iret hC dX2_settleShip_10 ⟨by rw [e9], by rw [e9, hd], fun c9 hc9 => rfl⟩

set_option maxHeartbeats 4000000 in
set_option maxRecDepth 100000 in
/-- opDelay d k n -/
theorem m_X2_delayShip (l : Launch) (G : va_G) (ca : Nat → ClassId) (ad : Int → Nat) (A : Nat → Prop) (μ : zM) (b : Int) (hb : zb b) (d : zM) (hd : vw μ b = d) (k n : Int) (hk : -2147483648 ≤ k ∧ k ≤ 2147483647) (hn : -2147483648 ≤ n ∧ n ≤ 2147483647) (hB : bD d) (hF : ∀ k, 0 ≤ k ∧ k < d 0 4 → ∀ x, 0 ≤ x ∧ x < d (6 + k) 6 → 0 ≤ d (11 + k) x ∧ d (11 + k) x < d 0 5) : zMet l (cω G ca ad) A yX2_delayShip cX2_delayShip 6 (some .int) 3 89 [.ref (ad b), .int (iZ k), .int (iZ n)] μ (zpI (.int (iZ (opDelay d k n).1)) (fun μ' => vw μ' b = (opDelay d k n).2 ∧ zFd μ b μ')) := by
  refine zMet_of (by decide) (Nat.le_of_ble_eq_true rfl) (fun Γ hC => ?_)
  show Z Γ _ μ 0 [(0, .ref (ad b)), (1, .int (iZ k)), (2, .int (iZ n))] []
  obtain ⟨hN, hP, hB3, hB4⟩ := id hB
  obtain ⟨hN1, hN2⟩ := id hN
  refine z_aload_n hC dX2_delayShip_0 rfl ?_
  refine z_iload_n hC dX2_delayShip_1 rfl ?_
  have hN1 : μ b 4 = d 0 4 := by rw [← hd, vw_S]
  refine z_callV hC [.int (iZ k)] 1 rfl dX2_delayShip_2 (fun l => m_X2_isShip l G ca ad _ μ b hb k (by omega) (by omega)) qM_X2_113 qI_X2_isShip qS_X2_isShip qi_X2 qC_X2_isShip (by decide +kernel) (by decide) (by decide) (cl_desk hb) (cd_desk hb) rfl (Nat.le_of_ble_eq_true rfl) (zk_pure ?_) rfl
  rw [hN1]
  refine z_ifb_eq hC 18 dX2_delayShip_5 (by decide) (fun c_2 => ?_) (fun c_2 => ?_)
  · refine z_ldc hC (-1000001) qc_X2_73 rfl dX2_delayShip_18 ?_
    have e9 : opDelay d k n = ((-1000001), d) := by
      unfold opDelay
      rw [if_pos (by omega)]
    exact z_iret hC dX2_delayShip_20 ⟨by rw [e9], by rw [e9, hd], fun c9 hc9 => rfl⟩
  · refine z_iload_n hC dX2_delayShip_8 rfl ?_
    refine z_iconst hC dX2_delayShip_9 ?_
    refine z_bipush hC dX2_delayShip_10 (by decide) ?_
    refine z_callSN hC [.int (iZ n), .int (iZ 1), .int (iZ 99)] 3 rfl dX2_delayShip_12 (fun l => m_X7_isIn l _ _ _ n 1 99 (by omega) (by omega) (by omega)) (by decide +kernel) qT_X7_isIn qi_X7 qC_X7_isIn (by decide +kernel) (by decide) (by decide) (Nat.le_of_ble_eq_true rfl) (zk_pure ?_) rfl
    refine z_ifb_ne hC 21 dX2_delayShip_15 (by decide) (fun c_3 => ?_) (fun c_3 => ?_)
    · obtain ⟨hs0, hs1, hs2, hs3, hs4, hs6⟩ := hB3 k (by omega)
      refine z_aload_n hC dX2_delayShip_21 rfl ?_
      refine z_get hC iA_X2 rfl 2 (by decide) qF_X2_20 rfl dX2_delayShip_22 (cl_desk hb) (cd_desk hb) rfl ?_
      refine z_iload_n hC dX2_delayShip_25 rfl ?_
      refine z_aald hC dX2_delayShip_26 2 rfl (cl_ships hb) (fun _ i => b + 6 + i) (cd_ships hb) (by omega) (by omega) (by decide) ?_
      refine z_astore_n hC dX2_delayShip_27 (by decide) rfl ?_
      refine z_aload_n hC dX2_delayShip_28 rfl ?_
      refine z_get hC iA_X6 rfl 4 (by decide) qF_X2_92 rfl dX2_delayShip_29 (cl_ship hb (by omega)) (cd_ship hb (by omega)) rfl ?_
      refine z_top (b := d (6 + k) 4) ((vw_ship (by omega) (by omega)).symm.trans (congrFun (congrFun hd _) _)) ?_
      refine z_iload_n hC dX2_delayShip_32 rfl ?_
      refine z_iadd hC dX2_delayShip_33 ?_
      refine z_sipush hC dX2_delayShip_34 (by decide) ?_
      refine z_icmp_le hC 43 dX2_delayShip_37 (by decide) (by omega) (by omega) (fun c_4 => ?_) (fun c_4 => ?_)
      · refine z_aload_n hC dX2_delayShip_43 rfl ?_
        refine z_dup hC dX2_delayShip_44 rfl ?_
        refine z_get hC iA_X6 rfl 4 (by decide) qF_X2_92 rfl dX2_delayShip_45 (cl_ship hb (by omega)) (cd_ship hb (by omega)) rfl ?_
        refine z_top (b := d (6 + k) 4) ((vw_ship (by omega) (by omega)).symm.trans (congrFun (congrFun hd _) _)) ?_
        refine z_iload_n hC dX2_delayShip_48 rfl ?_
        refine z_iadd hC dX2_delayShip_49 ?_
        refine z_put hC iA_X6 rfl tyX6 tyX6_ok nmX6 4 (by decide) rfl rfl 4 rfl qF_X2_92 rfl dX2_delayShip_50 (cl_ship hb (by omega)) (cd_ship hb (by omega)) (fun _ => rfl) (fun _ => Nat.le_of_ble_eq_true rfl) ?_
        refine z_nm (fun μ5 hμ5 => ?_)
        obtain ⟨d7, hd7⟩ : ∃ q9 : zM, q9 = zup d (6 + k) 4 ((d (6 + k) 4) + n) := ⟨_, rfl⟩
        have hd6 : vw μ5 b = d7 := by rw [hμ5, vw_upk (by unfold zrel; omega), hd, hd7]
        have hL : d7 = sLater d k n := hd7
        refine z_aload_n hC dX2_delayShip_53 rfl ?_
        refine z_get hC iA_X6 rfl 6 (by decide) qF_X2_126 rfl dX2_delayShip_54 (cl_ship hb (by omega)) (cd_ship hb (by omega)) rfl ?_
        refine z_top (b := d7 (6 + k) 6) ((vw_ship (by omega) (by omega)).symm.trans (congrFun (congrFun hd6 _) _)) ?_
        refine z_top (b := d (6 + k) 6) (by rw [hd7, zup_n (by omega)]) ?_
        refine z_istore hC dX2_delayShip_57 (by decide) rfl ?_
        refine z_aload_n hC dX2_delayShip_59 rfl ?_
        refine z_aload_n hC dX2_delayShip_60 rfl ?_
        refine z_aload_n hC dX2_delayShip_61 rfl ?_
        refine z_iload_n hC dX2_delayShip_62 rfl ?_
        have hB9 : bD d7 := by rw [hd7]; exact bD_later hB (by omega) (by omega) (by omega)
        have eo : ∀ o i, (o ≠ 6 + k ∨ i ≠ 4) → d7 o i = d o i := fun o i q => by rw [hd7, zup_n (by omega)]
        have hS9 : d7 0 4 = d 0 4 := eo _ _ (by omega)
        have hC9 : d7 0 5 = d 0 5 := eo _ _ (by omega)
        have hf6 : d7 (6 + k) 6 = d (6 + k) 6 := eo _ _ (by omega)
        have hNn : sNum d7 k = sNum d k := by unfold sNum; rw [hf6]
        have hNe := sNum_e (d := d) (k := k) (by omega)
        have hI9 := sInT_b d7 k
        have hN9 := hB9.1
        refine z_callV hC [.int (iZ k)] 1 rfl dX2_delayShip_63 (fun l => m_X2_fixturesInTime l G ca ad _ μ5 b hb d7 hd6 k hB9 (by omega) (fun n hn => by rw [eo (11 + k) _ (by omega), hC9]; exact hF k (by omega) _ (by omega))) qM_X2_138 qI_X2_fixturesInTime qS_X2_fixturesInTime qi_X2 qC_X2_fixturesInTime (by decide +kernel) (by decide) (by decide) (cl_desk hb) (cd_desk hb) rfl (Nat.le_of_ble_eq_true rfl) (zk_int (fun μ8 hμ8 => ?_)) rfl
        have hd9 : vw μ8 b = d7 := by rw [vw_fr5 hμ8]; exact hd6
        refine z_iconst hC dX2_delayShip_66 ?_
        refine z_callV hC [.ref (ad (b + 6 + k)), .int (iZ ((sInT d7 k : Nat) : Int)), .int (iZ 2)] 3 rfl dX2_delayShip_67 (fun l => m_X2_dropFixtures l G ca ad _ μ8 b hb d7 hd9 k ((sInT d7 k : Nat) : Int) 2 (sNum d k - sInT d7 k) hN9 (by omega) (by omega) (by omega) (by omega) (by omega) (fun x hx => by rw [eo (11 + k) x (by omega), hC9]; exact hF k (by omega) x (by omega))) qM_X2_141 qI_X2_dropFixtures qS_X2_dropFixtures qi_X2 qC_X2_dropFixtures (by decide +kernel) (by decide) (by decide) (cl_desk hb) (cd_desk hb) rfl (Nat.le_of_ble_eq_true rfl) (zk_void (fun μ10 hμ10 => ?_)) rfl
        obtain ⟨hμ10v, hμ10f⟩ := id hμ10
        obtain ⟨d12, hd12⟩ : ∃ q9 : zM, q9 = zup (sDrop k 2 (sNum d k - sInT d7 k) ((sInT d7 k : Nat) : Int) d7) (6 + k) 6 ((sInT d7 k : Nat) : Int) := ⟨_, rfl⟩
        have hd11 : vw μ10 b = d12 := by rw [hd12]; exact hμ10v
        refine z_iload hC dX2_delayShip_70 rfl ?_
        refine z_aload_n hC dX2_delayShip_72 rfl ?_
        refine z_get hC iA_X6 rfl 6 (by decide) qF_X2_126 rfl dX2_delayShip_73 (cl_ship hb (by omega)) (cd_ship hb (by omega)) rfl ?_
        refine z_top (b := d12 (6 + k) 6) ((vw_ship (by omega) (by omega)).symm.trans (congrFun (congrFun hd11 _) _)) ?_
        refine z_top (b := ((sInT d7 k : Nat) : Int)) (by rw [hd12, zup_s]) ?_
        refine z_isub hC dX2_delayShip_76 ?_
        refine z_istore hC dX2_delayShip_77 (by decide) rfl ?_
        refine z_aload_n hC dX2_delayShip_79 rfl ?_
        refine z_dup hC dX2_delayShip_80 rfl ?_
        refine z_get hC iA_X2 rfl 6 (by decide) qF_X2_59 rfl dX2_delayShip_81 (cl_desk hb) (cd_desk hb) rfl ?_
        refine z_top (b := d12 0 6) ((vw_can).symm.trans (congrFun (congrFun hd11 _) _)) ?_
        refine z_top (b := (sDrop k 2 (sNum d k - sInT d7 k) ((sInT d7 k : Nat) : Int) d7) 0 6) (by rw [hd12, zup_n (by omega)]) ?_
        refine z_top (b := d 0 6) (by rw [sDrop_o _ _ _ _ _ (by omega) (fun j hj => by rw [eo (11 + k) _ (by omega)]; exact (hF k (by omega) j (by omega)).1) (by omega), eo 0 6 (by omega)]) ?_
        refine z_iload hC dX2_delayShip_84 rfl ?_
        refine z_iadd hC dX2_delayShip_86 ?_
        refine z_put hC iA_X2 rfl tyX2 tyX2_ok nmX2 6 (by decide) rfl rfl 6 rfl qF_X2_59 rfl dX2_delayShip_87 (cl_desk hb) (cd_desk hb) (fun _ => rfl) (fun _ => Nat.le_of_ble_eq_true rfl) ?_
        refine z_nm (fun μ13 hμ13 => ?_)
        obtain ⟨d15, hd15⟩ : ∃ q9 : zM, q9 = zup d12 0 6 ((d 0 6) + ((d (6 + k) 6) - ((sInT d7 k : Nat) : Int))) := ⟨_, rfl⟩
        have hd14 : vw μ13 b = d15 := by rw [hμ13, vw_up0 (by unfold zrel; omega), hd11, hd15]
        refine z_iload hC dX2_delayShip_90 rfl ?_
        have e9 : opDelay d k n = ((d (6 + k) 6) - ((sInT d7 k : Nat) : Int), zup (zup (sDrop k 2 (sNum d k - sInT d7 k) ((sInT d7 k : Nat) : Int) d7) (6 + k) 6 ((sInT d7 k : Nat) : Int)) 0 6 ((d 0 6) + ((d (6 + k) 6) - ((sInT d7 k : Nat) : Int)))) := by
          unfold opDelay
          rw [if_neg (by omega), if_neg (by omega), ← hL]
        exact z_iret hC dX2_delayShip_92 ⟨by rw [e9], by rw [e9, hd14, hd15, hd12], fun c9 hc9 => by rw [hμ13, zup_o (by omega), hμ10f c9 (by omega), hμ8 c9 (by omega), hμ5, zup_o (by omega)]⟩
      · refine z_ldc hC (-1000003) qc_X2_79 rfl dX2_delayShip_40 ?_
        have e9 : opDelay d k n = ((-1000003), d) := by
          unfold opDelay
          rw [if_neg (by omega), if_pos (by omega)]
        exact z_iret hC dX2_delayShip_42 ⟨by rw [e9], by rw [e9, hd], fun c9 hc9 => rfl⟩
    · refine z_ldc hC (-1000001) qc_X2_73 rfl dX2_delayShip_18 ?_
      have e9 : opDelay d k n = ((-1000001), d) := by
        unfold opDelay
        rw [if_pos (by omega)]
      exact z_iret hC dX2_delayShip_20 ⟨by rw [e9], by rw [e9, hd], fun c9 hc9 => rfl⟩
end
section
/-- desk b is being made like desk b2: its ports, nS ships, nC cargoes are -/
def zCp (μ : zM) (b b2 : Int) (nS nC : Int) (μ1 : zM) : Prop := zFd μ b μ1 ∧ ∀ o i, zrel o i → ((1 ≤ o ∧ o ≤ 2) ∨ (6 ≤ o ∧ o < 6 + nS) ∨ (11 ≤ o ∧ o < 11 + nS) ∨ (16 ≤ o ∧ o < 16 + nC)) → μ1 (b + o) i = μ (b2 + o) i
theorem zCp_ship {μ μ1 μ2 : zM} {b b2 n nC : Int} (hbb : b2 + 26 ≤ b ∨ b + 26 ≤ b2) (hn : 0 ≤ n ∧ n < 5) (h : zCp μ b b2 n nC μ1)
    (h1 : ∀ c i, c ≠ b + 6 + n → c ≠ b + 11 + n → μ2 c i = μ1 c i) (h2 : ∀ i, 0 ≤ i ∧ i < 7 → μ2 (b + 6 + n) i = μ1 (b2 + 6 + n) i) (h3 : ∀ i, 0 ≤ i ∧ i < 10 → μ2 (b + 11 + n) i = μ1 (b2 + 11 + n) i) : zCp μ b b2 (n + 1) nC μ2 := by
  refine ⟨fun c hc => ?_, fun o i hr ho => ?_⟩
  · funext i
    rw [h1 c i (by omega) (by omega), h.1 c hc]
  · by_cases e1 : o = 6 + n
    · unfold zrel at hr
      rw [e1, ← Int.add_assoc, h2 i (by omega), h.1 _ (by omega), ← Int.add_assoc]
    · by_cases e2 : o = 11 + n
      · unfold zrel at hr
        rw [e2, ← Int.add_assoc, h3 i (by omega), h.1 _ (by omega), ← Int.add_assoc]
      · rw [h1 _ i (by omega) (by omega)]
        exact h.2 o i hr (by omega)
theorem zCp_cargo {μ μ1 μ2 : zM} {b b2 n nS : Int} (hbb : b2 + 26 ≤ b ∨ b + 26 ≤ b2) (hn : 0 ≤ n ∧ n < 10) (hS : nS ≤ 5) (h : zCp μ b b2 nS n μ1)
    (h1 : ∀ c i, c ≠ b + 16 + n → μ2 c i = μ1 c i) (h2 : ∀ i, 0 ≤ i ∧ i < 8 → μ2 (b + 16 + n) i = μ1 (b2 + 16 + n) i) : zCp μ b b2 nS (n + 1) μ2 := by
  refine ⟨fun c hc => ?_, fun o i hr ho => ?_⟩
  · funext i
    rw [h1 c i (by omega), h.1 c hc]
  · by_cases e1 : o = 16 + n
    · unfold zrel at hr
      rw [e1, ← Int.add_assoc, h2 i (by omega), h.1 _ (by omega), ← Int.add_assoc]
    · rw [h1 _ i (by omega)]
      exact h.2 o i hr (by omega)
theorem zCp_all {μ μ1 μ2 : zM} {b b2 : Int} (h : zCp μ b b2 5 10 μ1) (h1 : ∀ c, c ≠ b → μ2 c = μ1 c) (h2 : ∀ i, 4 ≤ i ∧ i < 8 → μ2 b i = μ b2 i) : vw μ2 b = vw μ b2 ∧ zFd μ b μ2 := by
  constructor
  · refine vw_eq (fun o i hr => ?_)
    by_cases e : o = 0
    · subst e
      unfold zrel at hr
      rw [Int.add_zero, Int.add_zero, h2 i (by omega)]
    · rw [h1 _ (by omega)]
      exact h.2 o i hr (by unfold zrel at hr; omega)
  · intro c hc
    rw [h1 c (by omega), h.1 c hc]
end
section
set_option maxHeartbeats 4000000 in
set_option maxRecDepth 100000 in
/-- Ship.copyFrom(other) -/
theorem m_X6_copyFrom (l : Launch) (G : va_G) (ca : Nat → ClassId) (ad : Int → Nat) (A : Nat → Prop) (μ : zM) (b b2 : Int) (hb : zb b) (hb2 : zb b2) (hbb : b2 + 26 ≤ b ∨ b + 26 ≤ b2) (k : Int) (hk : 0 ≤ k ∧ k < 5) : zMet l (cω G ca ad) A yX6_copyFrom cX6_copyFrom 2 none 1 40 [.ref (ad (b + 6 + k)), .ref (ad (b2 + 6 + k))] μ (zpV (fun μ' => (∀ c i, c ≠ b + 6 + k → c ≠ b + 11 + k → μ' c i = μ c i) ∧ (∀ i, 0 ≤ i ∧ i < 7 → μ' (b + 6 + k) i = μ (b2 + 6 + k) i) ∧ (∀ i, 0 ≤ i ∧ i < 10 → μ' (b + 11 + k) i = μ (b2 + 11 + k) i))) := by
  refine zMet_of (by decide) (Nat.le_of_ble_eq_true rfl) (fun Γ hC => ?_)
  show Z Γ _ μ 0 [(0, .ref (ad (b + 6 + k))), (1, .ref (ad (b2 + 6 + k)))] []
  refine z_aload_n hC dX6_copyFrom_0 rfl ?_
  refine z_aload_n hC dX6_copyFrom_1 rfl ?_
  refine z_get hC iA_X6 rfl 0 (by decide) qF_X6_15 rfl dX6_copyFrom_2 (cl_ship hb2 (by omega)) (cd_ship hb2 (by omega)) rfl ?_
  refine z_put hC iA_X6 rfl tyX6 tyX6_ok nmX6 0 (by decide) rfl rfl 0 rfl qF_X6_15 rfl dX6_copyFrom_5 (cl_ship hb (by omega)) (cd_ship hb (by omega)) (fun _ => rfl) (fun _ => Nat.le_of_ble_eq_true rfl) ?_
  refine z_nm (fun μ1 hμ1 => ?_)
  refine z_aload_n hC dX6_copyFrom_8 rfl ?_
  refine z_aload_n hC dX6_copyFrom_9 rfl ?_
  refine z_get hC iA_X6 rfl 1 (by decide) qF_X6_19 rfl dX6_copyFrom_10 (cl_ship hb2 (by omega)) (cd_ship hb2 (by omega)) rfl ?_
  refine z_top (b := μ (b2 + 6 + k) 1) (by rw [hμ1, zup_n (by omega)]) ?_
  refine z_put hC iA_X6 rfl tyX6 tyX6_ok nmX6 1 (by decide) rfl rfl 1 rfl qF_X6_19 rfl dX6_copyFrom_13 (cl_ship hb (by omega)) (cd_ship hb (by omega)) (fun _ => rfl) (fun _ => Nat.le_of_ble_eq_true rfl) ?_
  refine z_nm (fun μ2 hμ2 => ?_)
  refine z_aload_n hC dX6_copyFrom_16 rfl ?_
  refine z_aload_n hC dX6_copyFrom_17 rfl ?_
  refine z_get hC iA_X6 rfl 2 (by decide) qF_X6_22 rfl dX6_copyFrom_18 (cl_ship hb2 (by omega)) (cd_ship hb2 (by omega)) rfl ?_
  refine z_top (b := μ (b2 + 6 + k) 2) (by rw [hμ2, zup_n (by omega), hμ1, zup_n (by omega)]) ?_
  refine z_put hC iA_X6 rfl tyX6 tyX6_ok nmX6 2 (by decide) rfl rfl 2 rfl qF_X6_22 rfl dX6_copyFrom_21 (cl_ship hb (by omega)) (cd_ship hb (by omega)) (fun _ => rfl) (fun _ => Nat.le_of_ble_eq_true rfl) ?_
  refine z_nm (fun μ3 hμ3 => ?_)
  refine z_aload_n hC dX6_copyFrom_24 rfl ?_
  refine z_aload_n hC dX6_copyFrom_25 rfl ?_
  refine z_get hC iA_X6 rfl 3 (by decide) qF_X6_25 rfl dX6_copyFrom_26 (cl_ship hb2 (by omega)) (cd_ship hb2 (by omega)) rfl ?_
  refine z_top (b := μ (b2 + 6 + k) 3) (by rw [hμ3, zup_n (by omega), hμ2, zup_n (by omega), hμ1, zup_n (by omega)]) ?_
  refine z_put hC iA_X6 rfl tyX6 tyX6_ok nmX6 3 (by decide) rfl rfl 3 rfl qF_X6_25 rfl dX6_copyFrom_29 (cl_ship hb (by omega)) (cd_ship hb (by omega)) (fun _ => rfl) (fun _ => Nat.le_of_ble_eq_true rfl) ?_
  refine z_nm (fun μ4 hμ4 => ?_)
  refine z_aload_n hC dX6_copyFrom_32 rfl ?_
  refine z_aload_n hC dX6_copyFrom_33 rfl ?_
  refine z_get hC iA_X6 rfl 4 (by decide) qF_X6_28 rfl dX6_copyFrom_34 (cl_ship hb2 (by omega)) (cd_ship hb2 (by omega)) rfl ?_
  refine z_top (b := μ (b2 + 6 + k) 4) (by rw [hμ4, zup_n (by omega), hμ3, zup_n (by omega), hμ2, zup_n (by omega), hμ1, zup_n (by omega)]) ?_
  refine z_put hC iA_X6 rfl tyX6 tyX6_ok nmX6 4 (by decide) rfl rfl 4 rfl qF_X6_28 rfl dX6_copyFrom_37 (cl_ship hb (by omega)) (cd_ship hb (by omega)) (fun _ => rfl) (fun _ => Nat.le_of_ble_eq_true rfl) ?_
  refine z_nm (fun μ5 hμ5 => ?_)
  refine z_aload_n hC dX6_copyFrom_40 rfl ?_
  refine z_aload_n hC dX6_copyFrom_41 rfl ?_
  refine z_get hC iA_X6 rfl 5 (by decide) qF_X6_31 rfl dX6_copyFrom_42 (cl_ship hb2 (by omega)) (cd_ship hb2 (by omega)) rfl ?_
  refine z_top (b := μ (b2 + 6 + k) 5) (by rw [hμ5, zup_n (by omega), hμ4, zup_n (by omega), hμ3, zup_n (by omega), hμ2, zup_n (by omega), hμ1, zup_n (by omega)]) ?_
  refine z_put hC iA_X6 rfl tyX6 tyX6_ok nmX6 5 (by decide) rfl rfl 5 rfl qF_X6_31 rfl dX6_copyFrom_45 (cl_ship hb (by omega)) (cd_ship hb (by omega)) (fun _ => rfl) (fun _ => Nat.le_of_ble_eq_true rfl) ?_
  refine z_nm (fun μ6 hμ6 => ?_)
  refine z_aload_n hC dX6_copyFrom_48 rfl ?_
  refine z_aload_n hC dX6_copyFrom_49 rfl ?_
  refine z_get hC iA_X6 rfl 6 (by decide) qF_X6_34 rfl dX6_copyFrom_50 (cl_ship hb2 (by omega)) (cd_ship hb2 (by omega)) rfl ?_
  refine z_top (b := μ (b2 + 6 + k) 6) (by rw [hμ6, zup_n (by omega), hμ5, zup_n (by omega), hμ4, zup_n (by omega), hμ3, zup_n (by omega), hμ2, zup_n (by omega), hμ1, zup_n (by omega)]) ?_
  refine z_put hC iA_X6 rfl tyX6 tyX6_ok nmX6 6 (by decide) rfl rfl 6 rfl qF_X6_34 rfl dX6_copyFrom_53 (cl_ship hb (by omega)) (cd_ship hb (by omega)) (fun _ => rfl) (fun _ => Nat.le_of_ble_eq_true rfl) ?_
  refine z_nm (fun μ7 hμ7 => ?_)
  refine z_aload_n hC dX6_copyFrom_56 rfl ?_
  refine z_get hC iA_X6 rfl 7 (by decide) qF_X6_9 rfl dX6_copyFrom_57 (cl_ship hb2 (by omega)) (cd_ship hb2 (by omega)) rfl ?_
  refine z_iconst hC dX6_copyFrom_60 ?_
  refine z_aload_n hC dX6_copyFrom_61 rfl ?_
  refine z_get hC iA_X6 rfl 7 (by decide) qF_X6_9 rfl dX6_copyFrom_62 (cl_ship hb (by omega)) (cd_ship hb (by omega)) rfl ?_
  refine z_iconst hC dX6_copyFrom_65 ?_
  refine z_bipush hC dX6_copyFrom_66 (by decide) ?_
  refine z_copy hC qM_X6_37 dX6_copyFrom_68 (cl_fx hb2 (by omega)) (cl_fx hb (by omega)) (n := 10) (cd_fx hb2 (by omega)) (cd_fx hb (by omega)) (by decide) (by decide) (Nat.le_of_ble_eq_true rfl) ?_
  refine z_nm (fun μ8 hμ8 => ?_)
  refine z_vret hC dX6_copyFrom_71 ⟨rfl, fun c i q1 q2 => ?_, fun i hi => ?_, fun i hi => ?_⟩
  · rw [hμ8]; dsimp only; rw [if_neg (by omega), hμ7, zup_n (by omega), hμ6, zup_n (by omega), hμ5, zup_n (by omega), hμ4, zup_n (by omega), hμ3, zup_n (by omega), hμ2, zup_n (by omega), hμ1, zup_n (by omega)]
  · rw [hμ8]; dsimp only; rw [if_neg (by omega)]
    have q : i = 0 ∨ i = 1 ∨ i = 2 ∨ i = 3 ∨ i = 4 ∨ i = 5 ∨ i = 6 := by omega
    rcases q with rfl | rfl | rfl | rfl | rfl | rfl | rfl
    · rw [hμ7, zup_n (by omega), hμ6, zup_n (by omega), hμ5, zup_n (by omega), hμ4, zup_n (by omega), hμ3, zup_n (by omega), hμ2, zup_n (by omega), hμ1, zup_s]
    · rw [hμ7, zup_n (by omega), hμ6, zup_n (by omega), hμ5, zup_n (by omega), hμ4, zup_n (by omega), hμ3, zup_n (by omega), hμ2, zup_s]
    · rw [hμ7, zup_n (by omega), hμ6, zup_n (by omega), hμ5, zup_n (by omega), hμ4, zup_n (by omega), hμ3, zup_s]
    · rw [hμ7, zup_n (by omega), hμ6, zup_n (by omega), hμ5, zup_n (by omega), hμ4, zup_s]
    · rw [hμ7, zup_n (by omega), hμ6, zup_n (by omega), hμ5, zup_s]
    · rw [hμ7, zup_n (by omega), hμ6, zup_s]
    · rw [hμ7, zup_s]
  · rw [hμ8]; dsimp only; rw [if_pos ⟨rfl, by omega, by omega⟩, hμ7, zup_n (by omega), hμ6, zup_n (by omega), hμ5, zup_n (by omega), hμ4, zup_n (by omega), hμ3, zup_n (by omega), hμ2, zup_n (by omega), hμ1, zup_n (by omega)]

set_option maxHeartbeats 4000000 in
set_option maxRecDepth 100000 in
/-- Cargo.copyFrom(other) -/
theorem m_X0_copyFrom (l : Launch) (G : va_G) (ca : Nat → ClassId) (ad : Int → Nat) (A : Nat → Prop) (μ : zM) (b b2 : Int) (hb : zb b) (hb2 : zb b2) (hbb : b2 + 26 ≤ b ∨ b + 26 ≤ b2) (k : Int) (hk : 0 ≤ k ∧ k < 10) : zMet l (cω G ca ad) A yX0_copyFrom cX0_copyFrom 2 none 0 0 [.ref (ad (b + 16 + k)), .ref (ad (b2 + 16 + k))] μ (zpV (fun μ' => (∀ c i, c ≠ b + 16 + k → μ' c i = μ c i) ∧ (∀ i, 0 ≤ i ∧ i < 8 → μ' (b + 16 + k) i = μ (b2 + 16 + k) i))) := by
  refine zMet_of (by decide) (Nat.le_of_ble_eq_true rfl) (fun Γ hC => ?_)
  show Z Γ _ μ 0 [(0, .ref (ad (b + 16 + k))), (1, .ref (ad (b2 + 16 + k)))] []
  refine z_aload_n hC dX0_copyFrom_0 rfl ?_
  refine z_aload_n hC dX0_copyFrom_1 rfl ?_
  refine z_get hC iA_X0 rfl 0 (by decide) qF_X0_7 rfl dX0_copyFrom_2 (cl_cargo hb2 (by omega)) (cd_cargo hb2 (by omega)) rfl ?_
  refine z_put hC iA_X0 rfl tyX0 tyX0_ok nmX0 0 (by decide) rfl rfl 0 rfl qF_X0_7 rfl dX0_copyFrom_5 (cl_cargo hb (by omega)) (cd_cargo hb (by omega)) (fun _ => rfl) (fun _ => Nat.le_of_ble_eq_true rfl) ?_
  refine z_nm (fun μ1 hμ1 => ?_)
  refine z_aload_n hC dX0_copyFrom_8 rfl ?_
  refine z_aload_n hC dX0_copyFrom_9 rfl ?_
  refine z_get hC iA_X0 rfl 1 (by decide) qF_X0_13 rfl dX0_copyFrom_10 (cl_cargo hb2 (by omega)) (cd_cargo hb2 (by omega)) rfl ?_
  refine z_top (b := μ (b2 + 16 + k) 1) (by rw [hμ1, zup_n (by omega)]) ?_
  refine z_put hC iA_X0 rfl tyX0 tyX0_ok nmX0 1 (by decide) rfl rfl 1 rfl qF_X0_13 rfl dX0_copyFrom_13 (cl_cargo hb (by omega)) (cd_cargo hb (by omega)) (fun _ => rfl) (fun _ => Nat.le_of_ble_eq_true rfl) ?_
  refine z_nm (fun μ2 hμ2 => ?_)
  refine z_aload_n hC dX0_copyFrom_16 rfl ?_
  refine z_aload_n hC dX0_copyFrom_17 rfl ?_
  refine z_get hC iA_X0 rfl 2 (by decide) qF_X0_16 rfl dX0_copyFrom_18 (cl_cargo hb2 (by omega)) (cd_cargo hb2 (by omega)) rfl ?_
  refine z_top (b := μ (b2 + 16 + k) 2) (by rw [hμ2, zup_n (by omega), hμ1, zup_n (by omega)]) ?_
  refine z_put hC iA_X0 rfl tyX0 tyX0_ok nmX0 2 (by decide) rfl rfl 2 rfl qF_X0_16 rfl dX0_copyFrom_21 (cl_cargo hb (by omega)) (cd_cargo hb (by omega)) (fun _ => rfl) (fun _ => Nat.le_of_ble_eq_true rfl) ?_
  refine z_nm (fun μ3 hμ3 => ?_)
  refine z_aload_n hC dX0_copyFrom_24 rfl ?_
  refine z_aload_n hC dX0_copyFrom_25 rfl ?_
  refine z_get hC iA_X0 rfl 3 (by decide) qF_X0_19 rfl dX0_copyFrom_26 (cl_cargo hb2 (by omega)) (cd_cargo hb2 (by omega)) rfl ?_
  refine z_top (b := μ (b2 + 16 + k) 3) (by rw [hμ3, zup_n (by omega), hμ2, zup_n (by omega), hμ1, zup_n (by omega)]) ?_
  refine z_put hC iA_X0 rfl tyX0 tyX0_ok nmX0 3 (by decide) rfl rfl 3 rfl qF_X0_19 rfl dX0_copyFrom_29 (cl_cargo hb (by omega)) (cd_cargo hb (by omega)) (fun _ => rfl) (fun _ => Nat.le_of_ble_eq_true rfl) ?_
  refine z_nm (fun μ4 hμ4 => ?_)
  refine z_aload_n hC dX0_copyFrom_32 rfl ?_
  refine z_aload_n hC dX0_copyFrom_33 rfl ?_
  refine z_get hC iA_X0 rfl 4 (by decide) qF_X0_22 rfl dX0_copyFrom_34 (cl_cargo hb2 (by omega)) (cd_cargo hb2 (by omega)) rfl ?_
  refine z_top (b := μ (b2 + 16 + k) 4) (by rw [hμ4, zup_n (by omega), hμ3, zup_n (by omega), hμ2, zup_n (by omega), hμ1, zup_n (by omega)]) ?_
  refine z_put hC iA_X0 rfl tyX0 tyX0_ok nmX0 4 (by decide) rfl rfl 4 rfl qF_X0_22 rfl dX0_copyFrom_37 (cl_cargo hb (by omega)) (cd_cargo hb (by omega)) (fun _ => rfl) (fun _ => Nat.le_of_ble_eq_true rfl) ?_
  refine z_nm (fun μ5 hμ5 => ?_)
  refine z_aload_n hC dX0_copyFrom_40 rfl ?_
  refine z_aload_n hC dX0_copyFrom_41 rfl ?_
  refine z_get hC iA_X0 rfl 5 (by decide) qF_X0_25 rfl dX0_copyFrom_42 (cl_cargo hb2 (by omega)) (cd_cargo hb2 (by omega)) rfl ?_
  refine z_top (b := μ (b2 + 16 + k) 5) (by rw [hμ5, zup_n (by omega), hμ4, zup_n (by omega), hμ3, zup_n (by omega), hμ2, zup_n (by omega), hμ1, zup_n (by omega)]) ?_
  refine z_put hC iA_X0 rfl tyX0 tyX0_ok nmX0 5 (by decide) rfl rfl 5 rfl qF_X0_25 rfl dX0_copyFrom_45 (cl_cargo hb (by omega)) (cd_cargo hb (by omega)) (fun _ => rfl) (fun _ => Nat.le_of_ble_eq_true rfl) ?_
  refine z_nm (fun μ6 hμ6 => ?_)
  refine z_aload_n hC dX0_copyFrom_48 rfl ?_
  refine z_aload_n hC dX0_copyFrom_49 rfl ?_
  refine z_get hC iA_X0 rfl 6 (by decide) qF_X0_28 rfl dX0_copyFrom_50 (cl_cargo hb2 (by omega)) (cd_cargo hb2 (by omega)) rfl ?_
  refine z_top (b := μ (b2 + 16 + k) 6) (by rw [hμ6, zup_n (by omega), hμ5, zup_n (by omega), hμ4, zup_n (by omega), hμ3, zup_n (by omega), hμ2, zup_n (by omega), hμ1, zup_n (by omega)]) ?_
  refine z_put hC iA_X0 rfl tyX0 tyX0_ok nmX0 6 (by decide) rfl rfl 6 rfl qF_X0_28 rfl dX0_copyFrom_53 (cl_cargo hb (by omega)) (cd_cargo hb (by omega)) (fun _ => rfl) (fun _ => Nat.le_of_ble_eq_true rfl) ?_
  refine z_nm (fun μ7 hμ7 => ?_)
  refine z_aload_n hC dX0_copyFrom_56 rfl ?_
  refine z_aload_n hC dX0_copyFrom_57 rfl ?_
  refine z_get hC iA_X0 rfl 7 (by decide) qF_X0_31 rfl dX0_copyFrom_58 (cl_cargo hb2 (by omega)) (cd_cargo hb2 (by omega)) rfl ?_
  refine z_top (b := μ (b2 + 16 + k) 7) (by rw [hμ7, zup_n (by omega), hμ6, zup_n (by omega), hμ5, zup_n (by omega), hμ4, zup_n (by omega), hμ3, zup_n (by omega), hμ2, zup_n (by omega), hμ1, zup_n (by omega)]) ?_
  refine z_put hC iA_X0 rfl tyX0 tyX0_ok nmX0 7 (by decide) rfl rfl 7 rfl qF_X0_31 rfl dX0_copyFrom_61 (cl_cargo hb (by omega)) (cd_cargo hb (by omega)) (fun _ => rfl) (fun _ => Nat.le_of_ble_eq_true rfl) ?_
  refine z_nm (fun μ8 hμ8 => ?_)
  refine z_vret hC dX0_copyFrom_64 ⟨rfl, fun c i q1 => ?_, fun i hi => ?_⟩
  · rw [hμ8, zup_n (by omega), hμ7, zup_n (by omega), hμ6, zup_n (by omega), hμ5, zup_n (by omega), hμ4, zup_n (by omega), hμ3, zup_n (by omega), hμ2, zup_n (by omega), hμ1, zup_n (by omega)]
  · have q : i = 0 ∨ i = 1 ∨ i = 2 ∨ i = 3 ∨ i = 4 ∨ i = 5 ∨ i = 6 ∨ i = 7 := by omega
    rcases q with rfl | rfl | rfl | rfl | rfl | rfl | rfl | rfl
    · rw [hμ8, zup_n (by omega), hμ7, zup_n (by omega), hμ6, zup_n (by omega), hμ5, zup_n (by omega), hμ4, zup_n (by omega), hμ3, zup_n (by omega), hμ2, zup_n (by omega), hμ1, zup_s]
    · rw [hμ8, zup_n (by omega), hμ7, zup_n (by omega), hμ6, zup_n (by omega), hμ5, zup_n (by omega), hμ4, zup_n (by omega), hμ3, zup_n (by omega), hμ2, zup_s]
    · rw [hμ8, zup_n (by omega), hμ7, zup_n (by omega), hμ6, zup_n (by omega), hμ5, zup_n (by omega), hμ4, zup_n (by omega), hμ3, zup_s]
    · rw [hμ8, zup_n (by omega), hμ7, zup_n (by omega), hμ6, zup_n (by omega), hμ5, zup_n (by omega), hμ4, zup_s]
    · rw [hμ8, zup_n (by omega), hμ7, zup_n (by omega), hμ6, zup_n (by omega), hμ5, zup_s]
    · rw [hμ8, zup_n (by omega), hμ7, zup_n (by omega), hμ6, zup_s]
    · rw [hμ8, zup_n (by omega), hμ7, zup_s]
    · rw [hμ8, zup_s]

set_option maxHeartbeats 4000000 in
set_option maxRecDepth 100000 in
/-- Desk.copyFrom(other) -/
theorem m_X2_copyFrom (l : Launch) (G : va_G) (ca : Nat → ClassId) (ad : Int → Nat) (A : Nat → Prop) (μ : zM) (b b2 : Int) (hb : zb b) (hb2 : zb b2) (hbb : b2 + 26 ≤ b ∨ b + 26 ≤ b2) : zMet l (cω G ca ad) A yX2_copyFrom cX2_copyFrom 3 none 2 61 [.ref (ad b), .ref (ad b2)] μ (zpV (fun μ' => vw μ' b = vw μ b2 ∧ zFd μ b μ')) := by
  refine zMet_of (by decide) (Nat.le_of_ble_eq_true rfl) (fun Γ hC => ?_)
  show Z Γ _ μ 0 [(0, .ref (ad b)), (1, .ref (ad b2))] []
  refine z_aload_n hC dX2_copyFrom_0 rfl ?_
  refine z_get hC iA_X2 rfl 0 (by decide) qF_X2_9 rfl dX2_copyFrom_1 (cl_desk hb2) (cd_desk hb2) rfl ?_
  refine z_iconst hC dX2_copyFrom_4 ?_
  refine z_aload_n hC dX2_copyFrom_5 rfl ?_
  refine z_get hC iA_X2 rfl 0 (by decide) qF_X2_9 rfl dX2_copyFrom_6 (cl_desk hb) (cd_desk hb) rfl ?_
  refine z_iconst hC dX2_copyFrom_9 ?_
  refine z_bipush hC dX2_copyFrom_10 (by decide) ?_
  refine z_copy hC qM_X2_39 dX2_copyFrom_12 (cl_x hb2) (cl_x hb) (n := 8) (cd_x hb2) (cd_x hb) (by decide) (by decide) (Nat.le_of_ble_eq_true rfl) ?_
  refine z_nm (fun μ1 hμ1 => ?_)
  refine z_aload_n hC dX2_copyFrom_15 rfl ?_
  refine z_get hC iA_X2 rfl 1 (by decide) qF_X2_15 rfl dX2_copyFrom_16 (cl_desk hb2) (cd_desk hb2) rfl ?_
  refine z_iconst hC dX2_copyFrom_19 ?_
  refine z_aload_n hC dX2_copyFrom_20 rfl ?_
  refine z_get hC iA_X2 rfl 1 (by decide) qF_X2_15 rfl dX2_copyFrom_21 (cl_desk hb) (cd_desk hb) rfl ?_
  refine z_iconst hC dX2_copyFrom_24 ?_
  refine z_bipush hC dX2_copyFrom_25 (by decide) ?_
  refine z_copy hC qM_X2_39 dX2_copyFrom_27 (cl_y hb2) (cl_y hb) (n := 8) (cd_y hb2) (cd_y hb) (by decide) (by decide) (Nat.le_of_ble_eq_true rfl) ?_
  refine z_nm (fun μ2 hμ2 => ?_)
  refine z_iconst hC dX2_copyFrom_30 ?_
  refine z_istore_n hC dX2_copyFrom_31 (by decide) rfl ?_
  have LOOP : ∀ (r n : Nat), n + r = 5 → ∀ μ1 : zM, zCp μ b b2 (n : Int) 0 μ1 → Z Γ (cω G ca ad) μ1 32 [(2, .int (iZ (n : Int))), (0, .ref (ad b)), (1, .ref (ad b2))] [] := by
    intro r
    induction r with
    | zero =>
      intro n hn μ1 hp
      refine z_iload_n hC dX2_copyFrom_32 rfl ?_
      refine z_iconst hC dX2_copyFrom_33 ?_
      refine z_icmp_ge hC 58 dX2_copyFrom_34 (by decide) (by omega) (by omega) (fun c_3 => ?_) (fun c_3 => ?_)
      · refine z_iconst hC dX2_copyFrom_58 ?_
        refine z_istore_n hC dX2_copyFrom_59 (by decide) rfl ?_
        have LOOPC : ∀ (r n : Nat), n + r = 10 → ∀ μ1 : zM, zCp μ b b2 5 (n : Int) μ1 → Z Γ (cω G ca ad) μ1 60 [(2, .int (iZ (n : Int))), (0, .ref (ad b)), (1, .ref (ad b2))] [] := by
          intro r
          induction r with
          | zero =>
            intro n hn μ1 hp
            refine z_iload_n hC dX2_copyFrom_60 rfl ?_
            refine z_bipush hC dX2_copyFrom_61 (by decide) ?_
            refine z_icmp_ge hC 87 dX2_copyFrom_63 (by decide) (by omega) (by omega) (fun c_4 => ?_) (fun c_4 => ?_)
            · refine z_aload_n hC dX2_copyFrom_87 rfl ?_
              refine z_aload_n hC dX2_copyFrom_88 rfl ?_
              refine z_get hC iA_X2 rfl 4 (by decide) qF_X2_52 rfl dX2_copyFrom_89 (cl_desk hb2) (cd_desk hb2) rfl ?_
              refine z_put hC iA_X2 rfl tyX2 tyX2_ok nmX2 4 (by decide) rfl rfl 4 rfl qF_X2_52 rfl dX2_copyFrom_92 (cl_desk hb) (cd_desk hb) (fun _ => rfl) (fun _ => Nat.le_of_ble_eq_true rfl) ?_
              refine z_nm (fun μ5 hμ5 => ?_)
              refine z_aload_n hC dX2_copyFrom_95 rfl ?_
              refine z_aload_n hC dX2_copyFrom_96 rfl ?_
              refine z_get hC iA_X2 rfl 5 (by decide) qF_X2_56 rfl dX2_copyFrom_97 (cl_desk hb2) (cd_desk hb2) rfl ?_
              refine z_top (b := μ1 b2 5) (by rw [hμ5, zup_n (by omega)]) ?_
              refine z_put hC iA_X2 rfl tyX2 tyX2_ok nmX2 5 (by decide) rfl rfl 5 rfl qF_X2_56 rfl dX2_copyFrom_100 (cl_desk hb) (cd_desk hb) (fun _ => rfl) (fun _ => Nat.le_of_ble_eq_true rfl) ?_
              refine z_nm (fun μ6 hμ6 => ?_)
              refine z_aload_n hC dX2_copyFrom_103 rfl ?_
              refine z_aload_n hC dX2_copyFrom_104 rfl ?_
              refine z_get hC iA_X2 rfl 6 (by decide) qF_X2_59 rfl dX2_copyFrom_105 (cl_desk hb2) (cd_desk hb2) rfl ?_
              refine z_top (b := μ1 b2 6) (by rw [hμ6, zup_n (by omega), hμ5, zup_n (by omega)]) ?_
              refine z_put hC iA_X2 rfl tyX2 tyX2_ok nmX2 6 (by decide) rfl rfl 6 rfl qF_X2_59 rfl dX2_copyFrom_108 (cl_desk hb) (cd_desk hb) (fun _ => rfl) (fun _ => Nat.le_of_ble_eq_true rfl) ?_
              refine z_nm (fun μ7 hμ7 => ?_)
              refine z_aload_n hC dX2_copyFrom_111 rfl ?_
              refine z_aload_n hC dX2_copyFrom_112 rfl ?_
              refine z_get hC iA_X2 rfl 7 (by decide) qF_X2_62 rfl dX2_copyFrom_113 (cl_desk hb2) (cd_desk hb2) rfl ?_
              refine z_top (b := μ1 b2 7) (by rw [hμ7, zup_n (by omega), hμ6, zup_n (by omega), hμ5, zup_n (by omega)]) ?_
              refine z_put hC iA_X2 rfl tyX2 tyX2_ok nmX2 7 (by decide) rfl rfl 7 rfl qF_X2_62 rfl dX2_copyFrom_116 (cl_desk hb) (cd_desk hb) (fun _ => rfl) (fun _ => Nat.le_of_ble_eq_true rfl) ?_
              refine z_nm (fun μ8 hμ8 => ?_)
              obtain rfl : n = 10 := by omega
              refine z_vret hC dX2_copyFrom_119 ⟨rfl, zCp_all hp (fun c q => ?_) (fun i hi => ?_)⟩
              · rw [hμ8, zup_o q, hμ7, zup_o q, hμ6, zup_o q, hμ5, zup_o q]
              · have q : i = 4 ∨ i = 5 ∨ i = 6 ∨ i = 7 := by omega
                rcases q with rfl | rfl | rfl | rfl
                · rw [hμ8, zup_n (by omega), hμ7, zup_n (by omega), hμ6, zup_n (by omega), hμ5, zup_s, hp.1 _ (by omega)]
                · rw [hμ8, zup_n (by omega), hμ7, zup_n (by omega), hμ6, zup_s, hp.1 _ (by omega)]
                · rw [hμ8, zup_n (by omega), hμ7, zup_s, hp.1 _ (by omega)]
                · rw [hμ8, zup_s, hp.1 _ (by omega)]
            · exfalso; omega
          | succ r ih =>
            intro n hn μ1 hp
            refine z_iload_n hC dX2_copyFrom_60 rfl ?_
            refine z_bipush hC dX2_copyFrom_61 (by decide) ?_
            refine z_icmp_ge hC 87 dX2_copyFrom_63 (by decide) (by omega) (by omega) (fun c_9 => ?_) (fun c_9 => ?_)
            · exfalso; omega
            · refine z_aload_n hC dX2_copyFrom_66 rfl ?_
              refine z_get hC iA_X2 rfl 3 (by decide) qF_X2_26 rfl dX2_copyFrom_67 (cl_desk hb) (cd_desk hb) rfl ?_
              refine z_iload_n hC dX2_copyFrom_70 rfl ?_
              refine z_aald hC dX2_copyFrom_71 3 rfl (cl_cargoes hb) (fun _ i => b + 16 + i) (cd_cargoes hb) (by omega) (by omega) (by decide) ?_
              refine z_aload_n hC dX2_copyFrom_72 rfl ?_
              refine z_get hC iA_X2 rfl 3 (by decide) qF_X2_26 rfl dX2_copyFrom_73 (cl_desk hb2) (cd_desk hb2) rfl ?_
              refine z_iload_n hC dX2_copyFrom_76 rfl ?_
              refine z_aald hC dX2_copyFrom_77 3 rfl (cl_cargoes hb2) (fun _ i => b2 + 16 + i) (cd_cargoes hb2) (by omega) (by omega) (by decide) ?_
              refine z_callV hC [.ref (ad (b2 + 16 + (n : Int)))] 1 rfl dX2_copyFrom_78 (fun l => m_X0_copyFrom l G ca ad _ μ1 b b2 hb hb2 hbb (n : Int) (by omega)) qM_X2_49 qI_X0_copyFrom qS_X0_copyFrom qi_X0 qC_X0_copyFrom (by decide +kernel) (by decide) (by decide) (cl_cargo hb (by omega)) (cd_cargo hb (by omega)) rfl (Nat.le_of_ble_eq_true rfl) (zk_void (fun μ10 hμ10 => ?_)) rfl
              refine z_iinc hC dX2_copyFrom_81 rfl (by decide) rfl ?_
              refine z_goto hC 60 dX2_copyFrom_84 (by decide) ?_
              refine z_weak (L' := [(2, .int (iZ ((n + 1 : Nat) : Int))), (0, .ref (ad b)), (1, .ref (ad b2))]) ⟨rfl, rfl, rfl, trivial⟩ ?_
              exact ih (n + 1) (by omega) _ (zCp_cargo hbb (by omega) (by omega) hp hμ10.1 hμ10.2)
        refine z_weak (L' := [(2, .int (iZ ((0 : Nat) : Int))), (0, .ref (ad b)), (1, .ref (ad b2))]) ⟨rfl, rfl, rfl, trivial⟩ ?_
        obtain rfl : n = 5 := by omega
        exact LOOPC 10 0 (by omega) _ hp
      · exfalso; omega
    | succ r ih =>
      intro n hn μ1 hp
      refine z_iload_n hC dX2_copyFrom_32 rfl ?_
      refine z_iconst hC dX2_copyFrom_33 ?_
      refine z_icmp_ge hC 58 dX2_copyFrom_34 (by decide) (by omega) (by omega) (fun c_11 => ?_) (fun c_11 => ?_)
      · exfalso; omega
      · refine z_aload_n hC dX2_copyFrom_37 rfl ?_
        refine z_get hC iA_X2 rfl 2 (by decide) qF_X2_20 rfl dX2_copyFrom_38 (cl_desk hb) (cd_desk hb) rfl ?_
        refine z_iload_n hC dX2_copyFrom_41 rfl ?_
        refine z_aald hC dX2_copyFrom_42 2 rfl (cl_ships hb) (fun _ i => b + 6 + i) (cd_ships hb) (by omega) (by omega) (by decide) ?_
        refine z_aload_n hC dX2_copyFrom_43 rfl ?_
        refine z_get hC iA_X2 rfl 2 (by decide) qF_X2_20 rfl dX2_copyFrom_44 (cl_desk hb2) (cd_desk hb2) rfl ?_
        refine z_iload_n hC dX2_copyFrom_47 rfl ?_
        refine z_aald hC dX2_copyFrom_48 2 rfl (cl_ships hb2) (fun _ i => b2 + 6 + i) (cd_ships hb2) (by omega) (by omega) (by decide) ?_
        refine z_callV hC [.ref (ad (b2 + 6 + (n : Int)))] 1 rfl dX2_copyFrom_49 (fun l => m_X6_copyFrom l G ca ad _ μ1 b b2 hb hb2 hbb (n : Int) (by omega)) qM_X2_45 qI_X6_copyFrom qS_X6_copyFrom qi_X6 qC_X6_copyFrom (by decide +kernel) (by decide) (by decide) (cl_ship hb (by omega)) (cd_ship hb (by omega)) rfl (Nat.le_of_ble_eq_true rfl) (zk_void (fun μ12 hμ12 => ?_)) rfl
        refine z_iinc hC dX2_copyFrom_52 rfl (by decide) rfl ?_
        refine z_goto hC 32 dX2_copyFrom_55 (by decide) ?_
        refine z_weak (L' := [(2, .int (iZ ((n + 1 : Nat) : Int))), (0, .ref (ad b)), (1, .ref (ad b2))]) ⟨rfl, rfl, rfl, trivial⟩ ?_
        exact ih (n + 1) (by omega) _ (zCp_ship hbb (by omega) hp hμ12.1 hμ12.2.1 hμ12.2.2)
  refine z_weak (L' := [(2, .int (iZ ((0 : Nat) : Int))), (0, .ref (ad b)), (1, .ref (ad b2))]) ⟨rfl, rfl, rfl, trivial⟩ ?_
  refine LOOP 5 0 (by omega) _ ⟨fun c hc => ?_, fun o i hr ho => ?_⟩
  · funext i; rw [hμ2]; dsimp only; rw [if_neg (by omega), hμ1]; dsimp only; rw [if_neg (by omega)]
  · unfold zrel at hr
    rw [hμ2]; dsimp only
    by_cases q : o = 2
    · rw [if_pos (by omega), hμ1]; dsimp only; rw [if_neg (by omega), q]
    · have q1 : o = 1 := by omega
      rw [if_neg (by omega), hμ1]; dsimp only; rw [if_pos (by omega), q1]
end
section
/-! THE HISTORY: its four desks stand in some order -/
theorem zup_v {μ : zM} {c i z c' i' : Int} (h : c' = c ∧ i' = i) : zup μ c i z c' i' = z := if_pos h
def zPm (μ : zM) : Prop := (∀ i, 0 ≤ i ∧ i < 4 → 2 ≤ μ 158 i ∧ μ 158 i ≤ 5) ∧ ∀ i j, 0 ≤ i ∧ i < 4 → 0 ≤ j ∧ j < 4 → μ 158 i = μ 158 j → i = j
def zHi (μ : zM) (n : Int) (h : Int → zM) : Prop := zPm μ ∧ μ 157 1 = n ∧ (0 ≤ n ∧ n ≤ 4) ∧ ∀ i, 0 ≤ i ∧ i < n → vw μ (26 * μ 158 i) = h i
def sPushN (n : Int) : Int := if n = 4 then 4 else n + 1
def sPushH (n : Int) (h : Int → zM) (d : zM) : Int → zM := fun i => if n = 4 then (if i = 3 then d else h (i + 1)) else if i = n then d else h i
theorem zHi_eq {μ : zM} {n : Int} {h h' : Int → zM} (H : zHi μ n h) (e : ∀ i, 0 ≤ i ∧ i < n → h i = h' i) : zHi μ n h' := ⟨H.1, H.2.1, H.2.2.1, fun i hi => by rw [← e i hi]; exact H.2.2.2 i hi⟩
theorem zb_s {μ : zM} {i : Int} (h : zPm μ) (hi : 0 ≤ i ∧ i < 4) : zb (26 * μ 158 i) := ⟨μ 158 i, by have := h.1 i hi; omega, by have := h.1 i hi; omega, rfl⟩
/-- what is not the history's stays: its views too -/
theorem zHi_fr {μ μ' : zM} {n : Int} {h : Int → zM} (H : zHi μ n h) (e1 : ∀ c, 52 ≤ c ∧ c < 159 → μ' c = μ c) : zHi μ' n h := by
  obtain ⟨h1, h2, h3, h4⟩ := H
  have e158 : μ' 158 = μ 158 := e1 158 (by omega)
  refine ⟨by unfold zPm; rw [e158]; exact h1, by rw [e1 157 (by omega)]; exact h2, h3, fun i hi => ?_⟩
  rw [e158, ← h4 i hi]
  have hb := h1.1 i (by omega)
  exact vw_eq (fun o j hr => by rw [e1 _ (by unfold zrel at hr; omega)])
theorem zHi_drop {μ μ' : zM} {h : Int → zM} (H : zHi μ 4 h) (h0 : μ' 158 0 = μ 158 1) (h1 : μ' 158 1 = μ 158 2) (h2 : μ' 158 2 = μ 158 3) (h3 : μ' 158 3 = μ 158 0) (hs : μ' 157 1 = 3) (e : ∀ c, c < 157 → μ' c = μ c) : zHi μ' 3 (fun i => h (i + 1)) := by
  obtain ⟨⟨p1, p2⟩, q2, q3, q4⟩ := H
  have b0 := p1 0 (by omega)
  have b1 := p1 1 (by omega)
  have b2 := p1 2 (by omega)
  have b3 := p1 3 (by omega)
  have n01 : μ 158 0 ≠ μ 158 1 := fun q => absurd (p2 0 1 (by omega) (by omega) q) (by omega)
  have n02 : μ 158 0 ≠ μ 158 2 := fun q => absurd (p2 0 2 (by omega) (by omega) q) (by omega)
  have n03 : μ 158 0 ≠ μ 158 3 := fun q => absurd (p2 0 3 (by omega) (by omega) q) (by omega)
  have n12 : μ 158 1 ≠ μ 158 2 := fun q => absurd (p2 1 2 (by omega) (by omega) q) (by omega)
  have n13 : μ 158 1 ≠ μ 158 3 := fun q => absurd (p2 1 3 (by omega) (by omega) q) (by omega)
  have n23 : μ 158 2 ≠ μ 158 3 := fun q => absurd (p2 2 3 (by omega) (by omega) q) (by omega)
  have c4 : ∀ i : Int, 0 ≤ i ∧ i < 4 → i = 0 ∨ i = 1 ∨ i = 2 ∨ i = 3 := fun i hi => by omega
  have fr : ∀ x : Int, 2 ≤ x ∧ x ≤ 5 → vw μ' (26 * x) = vw μ (26 * x) := fun x hx => vw_eq (fun o j hr => by rw [e _ (by unfold zrel at hr; omega)])
  refine ⟨⟨fun i hi => ?_, fun i j hi hj q => ?_⟩, hs, by omega, fun i hi => ?_⟩
  · rcases c4 i hi with rfl | rfl | rfl | rfl <;> omega
  · rcases c4 i hi with rfl | rfl | rfl | rfl <;> rcases c4 j hj with rfl | rfl | rfl | rfl <;> omega
  · have hc : i = 0 ∨ i = 1 ∨ i = 2 := by omega
    rcases hc with rfl | rfl | rfl
    · rw [h0, fr _ b1]; exact q4 1 (by omega)
    · rw [h1, fr _ b2]; exact q4 2 (by omega)
    · rw [h2, fr _ b3]; exact q4 3 (by omega)
theorem zHi_put {μ μ2 μ3 : zM} {m : Int} {h : Int → zM} (hm : m < 4) (H : zHi μ m h) (hv : vw μ2 (26 * μ 158 m) = vw μ 0) (hf : zFd μ (26 * μ 158 m) μ2) (h3 : μ3 = zup μ2 157 1 (m + 1)) : zHi μ3 (m + 1) (fun i => if i = m then vw μ 0 else h i) := by
  obtain ⟨⟨p1, p2⟩, q2, q3, q4⟩ := H
  have bm := p1 m (by omega)
  have e3 : ∀ c, c ≠ 157 → μ3 c = μ2 c := fun c hc => by rw [h3, zup_o hc]
  have e158 : μ3 158 = μ 158 := by rw [e3 158 (by omega), hf 158 (by omega)]
  have fr : ∀ x : Int, 2 ≤ x ∧ x ≤ 5 → vw μ3 (26 * x) = vw μ2 (26 * x) := fun x hx => vw_eq (fun o j hr => by rw [e3 _ (by unfold zrel at hr; omega)])
  refine ⟨⟨by rw [e158]; exact p1, by rw [e158]; exact p2⟩, by rw [h3, zup_s], by omega, fun i hi => ?_⟩
  have bi := p1 i (by omega)
  rw [e158, fr _ bi]
  show _ = (if i = m then vw μ 0 else h i)
  by_cases q : i = m
  · rw [if_pos q, q]; exact hv
  · have nq : μ 158 i ≠ μ 158 m := fun z => q (p2 i m (by omega) (by omega) z)
    rw [if_neg q, ← q4 i (by omega)]
    exact vw_eq (fun o j hr => by rw [hf _ (by unfold zrel at hr; omega)])
theorem zHi_cut {μ μ' : zM} {n : Int} {h : Int → zM} (H : zHi μ n h) (hn : 1 ≤ n) (e : ∀ c, 52 ≤ c ∧ c < 159 ∧ c ≠ 157 → μ' c = μ c) (h2 : μ' 157 1 = n - 1) : zHi μ' (n - 1) h := by
  obtain ⟨h1, _, h3, h4⟩ := H
  have e158 : μ' 158 = μ 158 := e 158 (by omega)
  refine ⟨by unfold zPm; rw [e158]; exact h1, h2, by omega, fun i hi => ?_⟩
  rw [e158, ← h4 i (by omega)]
  have hb := h1.1 i (by omega)
  exact vw_eq (fun o j hr => by rw [e _ (by unfold zrel at hr; omega)])
/-- a change is kept, or it was an error -/
def isErr (r : Int) : Prop := -1000004 ≤ r ∧ r ≤ -1000001
end
section
set_option maxHeartbeats 4000000 in
set_option maxRecDepth 100000 in
/-- History.dropOldest() -/
theorem m_X4_dropOldest (l : Launch) (G : va_G) (ca : Nat → ClassId) (ad : Int → Nat) (A : Nat → Prop) (μ : zM) (hpm : zPm μ) : zMet l (cω G ca ad) A yX4_dropOldest cX4_dropOldest 3 none 0 0 [.ref (ad 157)] μ (zpV (fun μ' => μ' 158 0 = μ 158 1 ∧ μ' 158 1 = μ 158 2 ∧ μ' 158 2 = μ 158 3 ∧ μ' 158 3 = μ 158 0 ∧ μ' 157 1 = 3 ∧ (∀ c, c ≠ 157 ∧ c ≠ 158 → μ' c = μ c))) := by
  refine zMet_of (by decide) (Nat.le_of_ble_eq_true rfl) (fun Γ hC => ?_)
  show Z Γ _ μ 0 [(0, .ref (ad 157))] []
  refine z_aload_n hC dX4_dropOldest_0 rfl ?_
  refine z_get hC iA_X4 rfl 0 (by decide) qF_X4_11 rfl dX4_dropOldest_1 cl_hist (cd_hist (ca := ca) (ad := ad)) rfl ?_
  refine z_iconst hC dX4_dropOldest_4 ?_
  refine z_aald hC dX4_dropOldest_5 4 rfl cl_states (fun r i => 26 * r i) (cd_states (ca := ca) (ad := ad)) (by omega) (by omega) (by decide) ?_
  refine z_astore_n hC dX4_dropOldest_6 (by decide) rfl ?_
  refine z_iconst hC dX4_dropOldest_7 ?_
  refine z_istore_n hC dX4_dropOldest_8 (by decide) rfl ?_
  refine z_iload_n hC dX4_dropOldest_9 rfl ?_
  refine z_iconst hC dX4_dropOldest_10 ?_
  refine z_icmp_ge hC 34 dX4_dropOldest_11 (by decide) (by omega) (by omega) (fun c_1 => ?_) (fun c_1 => ?_)
  · exfalso; omega
  · refine z_aload_n hC dX4_dropOldest_14 rfl ?_
    refine z_get hC iA_X4 rfl 0 (by decide) qF_X4_11 rfl dX4_dropOldest_15 cl_hist (cd_hist (ca := ca) (ad := ad)) rfl ?_
    refine z_iload_n hC dX4_dropOldest_18 rfl ?_
    refine z_iconst hC dX4_dropOldest_19 ?_
    refine z_isub hC dX4_dropOldest_20 ?_
    refine z_aload_n hC dX4_dropOldest_21 rfl ?_
    refine z_get hC iA_X4 rfl 0 (by decide) qF_X4_11 rfl dX4_dropOldest_22 cl_hist (cd_hist (ca := ca) (ad := ad)) rfl ?_
    refine z_iload_n hC dX4_dropOldest_25 rfl ?_
    refine z_aald hC dX4_dropOldest_26 4 rfl cl_states (fun r i => 26 * r i) (cd_states (ca := ca) (ad := ad)) (by omega) (by omega) (by decide) ?_
    refine z_aast hC dX4_dropOldest_27 4 (r0 := (RX2, TX2, 12)) (ci := 2) (z := μ 158 1) rfl rfl cl_states (fun r i => 26 * r i) (cd_states (ca := ca) (ad := ad)) (fun r j => by dsimp only; split <;> rfl) (cl_desk (zb_s hpm (by omega))) (cd_desk (zb_s hpm (by omega))) (by omega) (by omega) (by decide) ?_
    refine z_nm (fun μ2 hμ2 => ?_)
    refine z_iinc hC dX4_dropOldest_28 rfl (by decide) rfl ?_
    refine z_goto hC 9 dX4_dropOldest_31 (by decide) ?_
    refine z_iload_n hC dX4_dropOldest_9 rfl ?_
    refine z_iconst hC dX4_dropOldest_10 ?_
    refine z_icmp_ge hC 34 dX4_dropOldest_11 (by decide) (by omega) (by omega) (fun c_3 => ?_) (fun c_3 => ?_)
    · exfalso; omega
    · refine z_aload_n hC dX4_dropOldest_14 rfl ?_
      refine z_get hC iA_X4 rfl 0 (by decide) qF_X4_11 rfl dX4_dropOldest_15 cl_hist (cd_hist (ca := ca) (ad := ad)) rfl ?_
      refine z_iload_n hC dX4_dropOldest_18 rfl ?_
      refine z_iconst hC dX4_dropOldest_19 ?_
      refine z_isub hC dX4_dropOldest_20 ?_
      refine z_aload_n hC dX4_dropOldest_21 rfl ?_
      refine z_get hC iA_X4 rfl 0 (by decide) qF_X4_11 rfl dX4_dropOldest_22 cl_hist (cd_hist (ca := ca) (ad := ad)) rfl ?_
      refine z_iload_n hC dX4_dropOldest_25 rfl ?_
      refine z_aald hC dX4_dropOldest_26 4 rfl cl_states (fun r i => 26 * r i) (cd_states (ca := ca) (ad := ad)) (by omega) (by omega) (by decide) ?_
      refine z_topr (b := ad (26 * (μ 158 2))) (by rw [hμ2, zup_n (by omega)]; try rfl) ?_
      refine z_aast hC dX4_dropOldest_27 4 (r0 := (RX2, TX2, 12)) (ci := 2) (z := μ 158 2) rfl rfl cl_states (fun r i => 26 * r i) (cd_states (ca := ca) (ad := ad)) (fun r j => by dsimp only; split <;> rfl) (cl_desk (zb_s hpm (by omega))) (cd_desk (zb_s hpm (by omega))) (by omega) (by omega) (by decide) ?_
      refine z_nm (fun μ4 hμ4 => ?_)
      refine z_iinc hC dX4_dropOldest_28 rfl (by decide) rfl ?_
      refine z_goto hC 9 dX4_dropOldest_31 (by decide) ?_
      refine z_iload_n hC dX4_dropOldest_9 rfl ?_
      refine z_iconst hC dX4_dropOldest_10 ?_
      refine z_icmp_ge hC 34 dX4_dropOldest_11 (by decide) (by omega) (by omega) (fun c_5 => ?_) (fun c_5 => ?_)
      · exfalso; omega
      · refine z_aload_n hC dX4_dropOldest_14 rfl ?_
        refine z_get hC iA_X4 rfl 0 (by decide) qF_X4_11 rfl dX4_dropOldest_15 cl_hist (cd_hist (ca := ca) (ad := ad)) rfl ?_
        refine z_iload_n hC dX4_dropOldest_18 rfl ?_
        refine z_iconst hC dX4_dropOldest_19 ?_
        refine z_isub hC dX4_dropOldest_20 ?_
        refine z_aload_n hC dX4_dropOldest_21 rfl ?_
        refine z_get hC iA_X4 rfl 0 (by decide) qF_X4_11 rfl dX4_dropOldest_22 cl_hist (cd_hist (ca := ca) (ad := ad)) rfl ?_
        refine z_iload_n hC dX4_dropOldest_25 rfl ?_
        refine z_aald hC dX4_dropOldest_26 4 rfl cl_states (fun r i => 26 * r i) (cd_states (ca := ca) (ad := ad)) (by omega) (by omega) (by decide) ?_
        refine z_topr (b := ad (26 * (μ 158 3))) (by rw [hμ4, zup_n (by omega), hμ2, zup_n (by omega)]; try rfl) ?_
        refine z_aast hC dX4_dropOldest_27 4 (r0 := (RX2, TX2, 12)) (ci := 2) (z := μ 158 3) rfl rfl cl_states (fun r i => 26 * r i) (cd_states (ca := ca) (ad := ad)) (fun r j => by dsimp only; split <;> rfl) (cl_desk (zb_s hpm (by omega))) (cd_desk (zb_s hpm (by omega))) (by omega) (by omega) (by decide) ?_
        refine z_nm (fun μ6 hμ6 => ?_)
        refine z_iinc hC dX4_dropOldest_28 rfl (by decide) rfl ?_
        refine z_goto hC 9 dX4_dropOldest_31 (by decide) ?_
        refine z_iload_n hC dX4_dropOldest_9 rfl ?_
        refine z_iconst hC dX4_dropOldest_10 ?_
        refine z_icmp_ge hC 34 dX4_dropOldest_11 (by decide) (by omega) (by omega) (fun c_7 => ?_) (fun c_7 => ?_)
        · refine z_aload_n hC dX4_dropOldest_34 rfl ?_
          refine z_get hC iA_X4 rfl 0 (by decide) qF_X4_11 rfl dX4_dropOldest_35 cl_hist (cd_hist (ca := ca) (ad := ad)) rfl ?_
          refine z_iconst hC dX4_dropOldest_38 ?_
          refine z_aload_n hC dX4_dropOldest_39 rfl ?_
          refine z_aast hC dX4_dropOldest_40 4 (r0 := (RX2, TX2, 12)) (ci := 2) (z := μ 158 0) rfl rfl cl_states (fun r i => 26 * r i) (cd_states (ca := ca) (ad := ad)) (fun r j => by dsimp only; split <;> rfl) (cl_desk (zb_s hpm (by omega))) (cd_desk (zb_s hpm (by omega))) (by omega) (by omega) (by decide) ?_
          refine z_nm (fun μ8 hμ8 => ?_)
          refine z_aload_n hC dX4_dropOldest_41 rfl ?_
          refine z_iconst hC dX4_dropOldest_42 ?_
          refine z_put hC iA_X4 rfl tyX4 tyX4_ok nmX4 1 (by decide) rfl rfl 1 rfl qF_X4_18 rfl dX4_dropOldest_43 cl_hist (cd_hist (ca := ca) (ad := ad)) (fun _ => rfl) (fun _ => Nat.le_of_ble_eq_true rfl) ?_
          refine z_nm (fun μ9 hμ9 => ?_)
          exact z_vret hC dX4_dropOldest_46 ⟨rfl, by rw [hμ9, zup_n (by omega), hμ8, zup_n (by omega), hμ6, zup_n (by omega), hμ4, zup_n (by omega), hμ2, zup_v (by omega)], by rw [hμ9, zup_n (by omega), hμ8, zup_n (by omega), hμ6, zup_n (by omega), hμ4, zup_v (by omega)], by rw [hμ9, zup_n (by omega), hμ8, zup_n (by omega), hμ6, zup_v (by omega)], by rw [hμ9, zup_n (by omega), hμ8, zup_v (by omega)], by rw [hμ9, zup_v (by omega)], fun c9 hc9 => by rw [hμ9, zup_o (by omega), hμ8, zup_o (by omega), hμ6, zup_o (by omega), hμ4, zup_o (by omega), hμ2, zup_o (by omega)]⟩
        · exfalso; omega

set_option maxHeartbeats 4000000 in
set_option maxRecDepth 100000 in
/-- History.record(desk) -/
theorem m_X4_record (l : Launch) (G : va_G) (ca : Nat → ClassId) (ad : Int → Nat) (A : Nat → Prop) (μ : zM) (n : Int) (h : Int → zM) (hH : zHi μ n h) : zMet l (cω G ca ad) A yX4_record cX4_record 2 none 3 83 [.ref (ad 157), .ref (ad 0)] μ (zpV (fun μ' => zHi μ' (sPushN n) (sPushH n h (vw μ 0)) ∧ (∀ c, c < 52 ∨ 159 ≤ c → μ' c = μ c))) := by
  refine zMet_of (by decide) (Nat.le_of_ble_eq_true rfl) (fun Γ hC => ?_)
  show Z Γ _ μ 0 [(0, .ref (ad 157)), (1, .ref (ad 0))] []
  have hpm := hH.1
  have hn0 := hH.2.2.1
  have hn1 := hH.2.1
  refine z_aload_n hC dX4_record_0 rfl ?_
  refine z_get hC iA_X4 rfl 1 (by decide) qF_X4_18 rfl dX4_record_1 cl_hist (cd_hist (ca := ca) (ad := ad)) rfl ?_
  refine z_top (b := n) (by rw [hn1]) ?_
  refine z_iconst hC dX4_record_4 ?_
  refine z_icmp_lt hC 12 dX4_record_5 (by decide) (by omega) (by omega) (fun c_1 => ?_) (fun c_1 => ?_)
  · refine z_aload_n hC dX4_record_12 rfl ?_
    refine z_get hC iA_X4 rfl 0 (by decide) qF_X4_11 rfl dX4_record_13 cl_hist (cd_hist (ca := ca) (ad := ad)) rfl ?_
    refine z_aload_n hC dX4_record_16 rfl ?_
    refine z_get hC iA_X4 rfl 1 (by decide) qF_X4_18 rfl dX4_record_17 cl_hist (cd_hist (ca := ca) (ad := ad)) rfl ?_
    refine z_top (b := n) (by rw [hn1]) ?_
    refine z_aald hC dX4_record_20 4 rfl cl_states (fun r i => 26 * r i) (cd_states (ca := ca) (ad := ad)) (by omega) (by omega) (by decide) ?_
    have hbn11 := hpm.1 n (by omega)
    refine z_aload_n hC dX4_record_21 rfl ?_
    refine z_callV hC [.ref (ad 0)] 1 rfl dX4_record_22 (fun l => m_X2_copyFrom l G ca ad _ μ (26 * (μ 158 n)) 0 (zb_s hpm (by omega)) zb_0 (by omega)) qM_X4_25 qI_X2_copyFrom qS_X2_copyFrom qi_X2 qC_X2_copyFrom (by decide +kernel) (by decide) (by decide) (cl_desk (zb_s hpm (by omega))) (cd_desk (zb_s hpm (by omega))) rfl (Nat.le_of_ble_eq_true rfl) (zk_void (fun μ2 hμ2 => ?_)) rfl
    obtain ⟨hμ2v, hμ2f⟩ := id hμ2
    refine z_aload_n hC dX4_record_25 rfl ?_
    refine z_dup hC dX4_record_26 rfl ?_
    refine z_get hC iA_X4 rfl 1 (by decide) qF_X4_18 rfl dX4_record_27 cl_hist (cd_hist (ca := ca) (ad := ad)) rfl ?_
    refine z_top (b := n) (by rw [hμ2f 157 (by omega), hn1]) ?_
    refine z_iconst hC dX4_record_30 ?_
    refine z_iadd hC dX4_record_31 ?_
    refine z_put hC iA_X4 rfl tyX4 tyX4_ok nmX4 1 (by decide) rfl rfl 1 rfl qF_X4_18 rfl dX4_record_32 cl_hist (cd_hist (ca := ca) (ad := ad)) (fun _ => rfl) (fun _ => Nat.le_of_ble_eq_true rfl) ?_
    refine z_nm (fun μ3 hμ3 => ?_)
    have K := zHi_put (by omega) hH hμ2v hμ2f hμ3
    exact z_vret hC dX4_record_35 ⟨rfl, by rw [show sPushN n = n + 1 by unfold sPushN; rw [if_neg (by omega)]]; exact zHi_eq K (fun i hi => by show (if i = n then vw μ 0 else h i) = (if n = 4 then (if i = 3 then vw μ 0 else h (i + 1)) else if i = n then vw μ 0 else h i); rw [if_neg (show ¬ n = 4 by omega)]), fun c9 hc9 => by rw [hμ3, zup_o (by omega), hμ2f c9 (by omega)]⟩
  · refine z_aload_n hC dX4_record_8 rfl ?_
    refine z_callV hC [] 0 rfl dX4_record_9 (fun l => m_X4_dropOldest l G ca ad _ μ hH.1) qM_X4_22 qI_X4_dropOldest qS_X4_dropOldest qi_X4 qC_X4_dropOldest (by decide +kernel) (by decide) (by decide) cl_hist (cd_hist (ca := ca) (ad := ad)) rfl (Nat.le_of_ble_eq_true rfl) (zk_void (fun μ4 hμ4 => ?_)) rfl
    obtain ⟨hμ40, hμ41, hμ42, hμ43, hμ4s, hμ4f⟩ := id hμ4
    have hH4 : zHi μ 4 h := by rw [show (4 : Int) = n by omega]; exact hH
    have hHd := zHi_drop hH4 hμ40 hμ41 hμ42 hμ43 hμ4s (fun c hc => hμ4f c (by omega))
    have hpd : zPm μ4 := hHd.1
    refine z_aload_n hC dX4_record_12 rfl ?_
    refine z_get hC iA_X4 rfl 0 (by decide) qF_X4_11 rfl dX4_record_13 cl_hist (cd_hist (ca := ca) (ad := ad)) rfl ?_
    refine z_aload_n hC dX4_record_16 rfl ?_
    refine z_get hC iA_X4 rfl 1 (by decide) qF_X4_18 rfl dX4_record_17 cl_hist (cd_hist (ca := ca) (ad := ad)) rfl ?_
    refine z_top (b := 3) (by rw [hμ4s]) ?_
    refine z_aald hC dX4_record_20 4 rfl cl_states (fun r i => 26 * r i) (cd_states (ca := ca) (ad := ad)) (by omega) (by omega) (by decide) ?_
    have hbn37 := hpd.1 3 (by omega)
    refine z_aload_n hC dX4_record_21 rfl ?_
    refine z_callV hC [.ref (ad 0)] 1 rfl dX4_record_22 (fun l => m_X2_copyFrom l G ca ad _ μ4 (26 * (μ4 158 3)) 0 (zb_s hpd (by omega)) zb_0 (by omega)) qM_X4_25 qI_X2_copyFrom qS_X2_copyFrom qi_X2 qC_X2_copyFrom (by decide +kernel) (by decide) (by decide) (cl_desk (zb_s hpd (by omega))) (cd_desk (zb_s hpd (by omega))) rfl (Nat.le_of_ble_eq_true rfl) (zk_void (fun μ5 hμ5 => ?_)) rfl
    obtain ⟨hμ5v, hμ5f⟩ := id hμ5
    refine z_aload_n hC dX4_record_25 rfl ?_
    refine z_dup hC dX4_record_26 rfl ?_
    refine z_get hC iA_X4 rfl 1 (by decide) qF_X4_18 rfl dX4_record_27 cl_hist (cd_hist (ca := ca) (ad := ad)) rfl ?_
    refine z_top (b := 3) (by rw [hμ5f 157 (by omega), hμ4s]) ?_
    refine z_iconst hC dX4_record_30 ?_
    refine z_iadd hC dX4_record_31 ?_
    refine z_put hC iA_X4 rfl tyX4 tyX4_ok nmX4 1 (by decide) rfl rfl 1 rfl qF_X4_18 rfl dX4_record_32 cl_hist (cd_hist (ca := ca) (ad := ad)) (fun _ => rfl) (fun _ => Nat.le_of_ble_eq_true rfl) ?_
    refine z_nm (fun μ6 hμ6 => ?_)
    have e0 : vw μ4 0 = vw μ 0 := vw_eq (fun o j hr => by rw [hμ4f _ (by unfold zrel at hr; omega)])
    have K := zHi_put (by omega) hHd hμ5v hμ5f hμ6
    exact z_vret hC dX4_record_35 ⟨rfl, by rw [show sPushN n = 3 + 1 by unfold sPushN; rw [if_pos (by omega)]; rfl]; exact zHi_eq K (fun i hi => by show (if i = 3 then vw μ4 0 else h (i + 1)) = (if n = 4 then (if i = 3 then vw μ 0 else h (i + 1)) else if i = n then vw μ 0 else h i); rw [if_pos (show n = 4 by omega), e0]), fun c9 hc9 => by rw [hμ6, zup_o (by omega), hμ5f c9 (by omega), hμ4f c9 (by omega)]⟩
end
section
/-! THE STATE: the desk d, n states h in the history, L characters t -/
def zTx (μ : zM) (L : Int) (t : Int → Int) : Prop := μ 159 1 = L ∧ (0 ≤ L ∧ L ≤ 60) ∧ ∀ i, 0 ≤ i ∧ i < L → μ 160 i = t i ∧ (32 ≤ t i ∧ t i ≤ 126)
def zSt (μ : zM) (d : zM) (n : Int) (h : Int → zM) (L : Int) (t : Int → Int) : Prop := vw μ 0 = d ∧ zHi μ n h ∧ zTx μ L t
/-- a change: kept, or an error -/
def sKeep (r : Int × zM) (d : zM) (n : Int) (h : Int → zM) : zM × Int × (Int → zM) := if -1000004 ≤ r.1 ∧ r.1 ≤ -1000001 then (d, n, h) else (r.2, sPushN n, sPushH n h d)
def zStK (μ : zM) (q : zM × Int × (Int → zM)) (L : Int) (t : Int → Int) : Prop := zSt μ q.1 q.2.1 q.2.2 L t
theorem zTx_fr {μ μ' : zM} {L : Int} {t : Int → Int} (H : zTx μ L t) (e1 : μ' 159 1 = μ 159 1) (e2 : ∀ i, 0 ≤ i ∧ i < L → μ' 160 i = μ 160 i) : zTx μ' L t := ⟨by rw [e1]; exact H.1, H.2.1, fun i hi => by rw [e2 i hi]; exact H.2.2 i hi⟩
/-- only the trial has changed, and what is not the state's -/
theorem zSt_fr {μ μ' d : zM} {n L : Int} {h : Int → zM} {t : Int → Int} (H : zSt μ d n h L t) (e0 : vw μ' 0 = vw μ 0) (e1 : ∀ c, 52 ≤ c ∧ c < 159 → μ' c = μ c) (e2 : μ' 159 1 = μ 159 1) (e3 : μ' 160 = μ 160) : zSt μ' d n h L t := ⟨e0.trans H.1, zHi_fr H.2.1 e1, zTx_fr H.2.2 e2 (fun i _ => by rw [e3])⟩
theorem zSt_tr {μ μ' d : zM} {n L : Int} {h : Int → zM} {t : Int → Int} (H : zSt μ d n h L t) (e : zFd μ 26 μ') : zSt μ' d n h L t := zSt_fr H (vw_eq (fun o i hr => by rw [e _ (by unfold zrel at hr; omega)])) (fun c hc => e c (by omega)) (by rw [e 159 (by omega)]) (e 160 (by omega))
theorem vw_fd {μ μ' : zM} {b b2 : Int} (e : zFd μ b2 μ') (h : b + 26 ≤ b2 ∨ b2 + 26 ≤ b) : vw μ' b = vw μ b := vw_eq (fun o i hr => by rw [e _ (by unfold zrel at hr; omega)])
/-- ships and cargoes that have not come are new; fixtures are fixed cargoes, each once, none too late -/
def zInv (d : zM) : Prop := bD d ∧ (∀ k, d 0 4 ≤ k ∧ k < 5 → d (6 + k) 5 = 0 ∧ d (6 + k) 6 = 0) ∧ (∀ c, d 0 5 ≤ c ∧ c < 10 → d (16 + c) 6 = 0) ∧
  (∀ k, 0 ≤ k ∧ k < d 0 4 → ∀ x, 0 ≤ x ∧ x < d (6 + k) 6 → 0 ≤ d (11 + k) x ∧ d (11 + k) x < d 0 5) ∧
  (∀ k, 0 ≤ k ∧ k < d 0 4 → ∀ x, 0 ≤ x ∧ x < d (6 + k) 6 → d (16 + d (11 + k) x) 6 = 1) ∧
  (∀ k k' x x', 0 ≤ k ∧ k < d 0 4 → 0 ≤ k' ∧ k' < d 0 4 → 0 ≤ x ∧ x < d (6 + k) 6 → 0 ≤ x' ∧ x' < d (6 + k') 6 → d (11 + k) x = d (11 + k') x' → k = k' ∧ x = x') ∧
  (∀ k, 0 ≤ k ∧ k < d 0 4 → ∀ n : Nat, n < sNum d k → 0 ≤ sMarg d k (d (11 + k) (n : Int)) (sPos d k n).1 (sPos d k n).2.1)
theorem zInv_F {d : zM} (H : zInv d) : ∀ k, 0 ≤ k ∧ k < d 0 4 → ∀ x, 0 ≤ x ∧ x < d (6 + k) 6 → 0 ≤ d (11 + k) x ∧ d (11 + k) x < d 0 5 := H.2.2.2.1
theorem zInv_G {d : zM} (H : zInv d) : ∀ k, 0 ≤ k ∧ k < d 0 4 → zGo d k (sNum d k) := by
  intro k hk
  obtain ⟨hB, _, _, hF, _, _, hL⟩ := H
  have hs := hB.2.2.1 k hk
  have hNe := sNum_e (d := d) (k := k) hs.2.2.2.2.2.1
  have hF' : ∀ n : Nat, n < sNum d k → 0 ≤ d (11 + k) (n : Int) ∧ d (11 + k) (n : Int) < d 0 5 := fun n hn => hF k hk n (by omega)
  refine ⟨hF', fun n hn => ?_⟩
  have := sPos_b hB hk n (fun m hm => hF' m (by omega)) (fun m hm => hL k hk m (by omega))
  exact ⟨this.1, this.2.1, by omega⟩
theorem zpigeon : ∀ (N : Nat) (f : Nat → Nat), (∀ i, i < N + 1 → f i < N) → (∀ i j, i < N + 1 → j < N + 1 → f i = f j → i = j) → False := by
  intro N
  induction N with
  | zero => intro f h _; exact absurd (h 0 (by omega)) (by omega)
  | succ N ih =>
    intro f h hi
    refine ih (fun i => if f i = N then f (N + 1) else f i) (fun i hi2 => ?_) (fun i j h1 h2 e => ?_)
    · have a := h i (by omega)
      have b := h (N + 1) (by omega)
      split
      · rename_i q
        have : f (N + 1) ≠ N := fun z => absurd (hi i (N + 1) (by omega) (by omega) (q.trans z.symm)) (by omega)
        omega
      · omega
    · split at e
      · rename_i q1
        split at e
        · rename_i q2
          exact hi i j (by omega) (by omega) (q1.trans q2.symm)
        · exact absurd (hi (N + 1) j (by omega) (by omega) e) (by omega)
      · split at e
        · exact absurd (hi i (N + 1) (by omega) (by omega) e) (by omega)
        · exact hi i j (by omega) (by omega) e
theorem zInv_full {d : zM} (H : zInv d) : ∀ k c, 0 ≤ k ∧ k < d 0 4 → 0 ≤ c ∧ c < d 0 5 → d (16 + c) 6 = 0 → d (6 + k) 6 < 10 := by
  intro k c hk hc h0
  obtain ⟨hB, _, _, hF, hS, hI, _⟩ := H
  have hN := hB.1.2
  by_cases q : d (6 + k) 6 < 10
  · exact q
  · exfalso
    refine zpigeon 10 (fun i => if i = 10 then c.toNat else (d (11 + k) (i : Int)).toNat) (fun i hi => ?_) (fun i j hi hj e => ?_)
    · split
      · omega
      · have := hF k hk i (by omega)
        omega
    · have g : ∀ m : Nat, m < 10 → (d (11 + k) (m : Int)).toNat ≠ c.toNat := by
        intro m hm z
        have f1 := hF k hk m (by omega)
        have f2 := hS k hk m (by omega)
        have : d (11 + k) (m : Int) = c := by omega
        rw [this, h0] at f2
        exact absurd f2 (by decide)
      split at e
      · split at e
        · omega
        · exact absurd e.symm (g j (by omega))
      · split at e
        · exact absurd e (g i (by omega))
        · have f1 := hF k hk i (by omega)
          have f2 := hF k hk j (by omega)
          have := (hI k k i j hk hk (by omega) (by omega) (by omega)).2
          omega
def opUndo (d : zM) (n : Int) (h : Int → zM) : Int × (zM × Int × (Int → zM)) := if 1 ≤ n then (n - 1, (h (n - 1), n - 1, h)) else (-1000002, (d, n, h))
end
section
set_option maxHeartbeats 4000000 in
set_option maxRecDepth 100000 in
/-- freshTrial() -/
theorem m_X7_freshTrial (l : Launch) (G : va_G) (ca : Nat → ClassId) (ad : Int → Nat) (A : Nat → Prop) (μ : zM) : zMet l (cω G ca ad) A yX7_freshTrial cX7_freshTrial 1 (some (.object "ShipFixtures$Desk")) 3 83 [.ref (ad 156)] μ (zpI (.ref (ad 26)) (fun μ' => vw μ' 26 = vw μ 0 ∧ zFd μ 26 μ')) := by
  refine zMet_of (by decide) (Nat.le_of_ble_eq_true rfl) (fun Γ hC => ?_)
  show Z Γ _ μ 0 [(0, .ref (ad 156))] []
  refine z_aload_n hC dX7_freshTrial_0 rfl ?_
  refine z_get hC iA_X7 rfl 1 (by decide) qF_X7_16 rfl dX7_freshTrial_1 cl_main (cd_main (ca := ca) (ad := ad)) rfl ?_
  refine z_aload_n hC dX7_freshTrial_4 rfl ?_
  refine z_get hC iA_X7 rfl 0 (by decide) qF_X7_10 rfl dX7_freshTrial_5 cl_main (cd_main (ca := ca) (ad := ad)) rfl ?_
  refine z_callV hC [.ref (ad 0)] 1 rfl dX7_freshTrial_8 (fun l => m_X2_copyFrom l G ca ad _ μ 26 0 zb_26 zb_0 (by omega)) qM_X7_280 qI_X2_copyFrom qS_X2_copyFrom qi_X2 qC_X2_copyFrom (by decide +kernel) (by decide) (by decide) (cl_desk zb_26) (cd_desk (ca := ca) (ad := ad) zb_26) rfl (Nat.le_of_ble_eq_true rfl) (zk_void (fun μ1 hμ1 => ?_)) rfl
  obtain ⟨hμ1v, hμ1f⟩ := id hμ1
  refine z_aload_n hC dX7_freshTrial_11 rfl ?_
  refine z_get hC iA_X7 rfl 1 (by decide) qF_X7_16 rfl dX7_freshTrial_12 cl_main (cd_main (ca := ca) (ad := ad)) rfl ?_
  exact z_aret hC dX7_freshTrial_15 ⟨rfl, hμ1⟩

set_option maxHeartbeats 4000000 in
set_option maxRecDepth 100000 in
/-- keep(a) -/
theorem m_X7_keep (l : Launch) (G : va_G) (ca : Nat → ClassId) (ad : Int → Nat) (A : Nat → Prop) (μ : zM) (d : zM) (n : Int) (h : Int → zM) (L : Int) (t : Int → Int) (hX : zSt μ d n h L t) (a : Int) (r : zM) (ha : -2147483648 ≤ a ∧ a ≤ 2147483647) (h26 : vw μ 26 = r) : zMet l (cω G ca ad) A yX7_keep cX7_keep 2 (some .int) 4 104 [.ref (ad 156), .int (iZ a)] μ (zpI (.int (iZ a)) (fun μ' => zStK μ' (sKeep (a, r) d n h) L t)) := by
  refine zMet_of (by decide) (Nat.le_of_ble_eq_true rfl) (fun Γ hC => ?_)
  show Z Γ _ μ 0 [(0, .ref (ad 156)), (1, .int (iZ a))] []
  refine z_iload_n hC dX7_keep_0 rfl ?_
  refine z_callS hC [.int (iZ a)] 1 rfl dX7_keep_1 (fun l => m_X7_isError l _ _ _ a (by omega)) qM_X7_284 qT_X7_isError qi_X7 qC_X7_isError (by decide +kernel) (by decide) (by decide) (Nat.le_of_ble_eq_true rfl) (zk_pure ?_) rfl
  refine z_ifb_ne hC 29 dX7_keep_4 (by decide) (fun c_1 => ?_) (fun c_1 => ?_)
  · refine z_iload_n hC dX7_keep_29 rfl ?_
    exact z_iret hC dX7_keep_30 ⟨rfl, by unfold sKeep; rw [if_pos (by omega)]; exact hX⟩
  · refine z_aload_n hC dX7_keep_7 rfl ?_
    refine z_get hC iA_X7 rfl 2 (by decide) qF_X7_22 rfl dX7_keep_8 cl_main (cd_main (ca := ca) (ad := ad)) rfl ?_
    refine z_aload_n hC dX7_keep_11 rfl ?_
    refine z_get hC iA_X7 rfl 0 (by decide) qF_X7_10 rfl dX7_keep_12 cl_main (cd_main (ca := ca) (ad := ad)) rfl ?_
    refine z_callV hC [.ref (ad 0)] 1 rfl dX7_keep_15 (fun l => m_X4_record l G ca ad _ μ n h hX.2.1) qM_X7_287 qI_X4_record qS_X4_record qi_X4 qC_X4_record (by decide +kernel) (by decide) (by decide) cl_hist (cd_hist (ca := ca) (ad := ad)) rfl (Nat.le_of_ble_eq_true rfl) (zk_void (fun μ2 hμ2 => ?_)) rfl
    obtain ⟨hμ2v, hμ2f⟩ := id hμ2
    refine z_aload_n hC dX7_keep_18 rfl ?_
    refine z_get hC iA_X7 rfl 0 (by decide) qF_X7_10 rfl dX7_keep_19 cl_main (cd_main (ca := ca) (ad := ad)) rfl ?_
    refine z_aload_n hC dX7_keep_22 rfl ?_
    refine z_get hC iA_X7 rfl 1 (by decide) qF_X7_16 rfl dX7_keep_23 cl_main (cd_main (ca := ca) (ad := ad)) rfl ?_
    refine z_callV hC [.ref (ad 26)] 1 rfl dX7_keep_26 (fun l => m_X2_copyFrom l G ca ad _ μ2 0 26 zb_0 zb_26 (by omega)) qM_X7_280 qI_X2_copyFrom qS_X2_copyFrom qi_X2 qC_X2_copyFrom (by decide +kernel) (by decide) (by decide) (cl_desk zb_0) (cd_desk (ca := ca) (ad := ad) zb_0) rfl (Nat.le_of_ble_eq_true rfl) (zk_void (fun μ3 hμ3 => ?_)) rfl
    obtain ⟨hμ3v, hμ3f⟩ := id hμ3
    refine z_iload_n hC dX7_keep_29 rfl ?_
    have e26 : vw μ2 26 = vw μ 26 := vw_eq (fun o i hr => by rw [hμ2f _ (by unfold zrel at hr; omega)])
    have K : zSt μ3 r (sPushN n) (sPushH n h d) L t := ⟨by rw [hμ3v, e26]; exact h26, by rw [← hX.1]; exact zHi_fr hμ2v (fun c hc => hμ3f c (by omega)), zTx_fr hX.2.2 (by rw [hμ3f 159 (by omega), hμ2f 159 (by omega)]) (fun i _ => by rw [hμ3f 160 (by omega), hμ2f 160 (by omega)])⟩
    exact z_iret hC dX7_keep_30 ⟨rfl, by unfold sKeep; rw [if_neg (by omega)]; exact K⟩

set_option maxHeartbeats 4000000 in
set_option maxRecDepth 100000 in
/-- port -/
theorem m_X7_port (l : Launch) (G : va_G) (ca : Nat → ClassId) (ad : Int → Nat) (A : Nat → Prop) (μ : zM) (d : zM) (n : Int) (h : Int → zM) (L : Int) (t : Int → Int) (hX : zSt μ d n h L t) (hI : zInv d) (p x y : Int) (hp : -2147483648 ≤ p ∧ p ≤ 2147483647) (hx : -2147483648 ≤ x ∧ x ≤ 2147483647) (hy : -2147483648 ≤ y ∧ y ≤ 2147483647) (hr : -2147483648 ≤ (opPort d p x y).1 ∧ (opPort d p x y).1 ≤ 2147483647) : zMet l (cω G ca ad) A yX7_port cX7_port 4 (some .int) 5 125 [.ref (ad 156), .int (iZ p), .int (iZ x), .int (iZ y)] μ (zpI (.int (iZ (opPort d p x y).1)) (fun μ' => zStK μ' (sKeep (opPort d p x y) d n h) L t)) := by
  refine zMet_of (by decide) (Nat.le_of_ble_eq_true rfl) (fun Γ hC => ?_)
  show Z Γ _ μ 0 [(0, .ref (ad 156)), (1, .int (iZ p)), (2, .int (iZ x)), (3, .int (iZ y))] []
  refine z_aload_n hC dX7_port_0 rfl ?_
  refine z_aload_n hC dX7_port_1 rfl ?_
  refine z_callV hC [] 0 rfl dX7_port_2 (fun l => m_X7_freshTrial l G ca ad _ μ) qM_X7_40 qI_X7_freshTrial qS_X7_freshTrial qi_X7 qC_X7_freshTrial (by decide +kernel) (by decide) (by decide) cl_main (cd_main (ca := ca) (ad := ad)) rfl (Nat.le_of_ble_eq_true rfl) (zk_int (fun μ1 hμ1 => ?_)) rfl
  obtain ⟨hμ1v, hμ1f⟩ := id hμ1
  have hX1 := zSt_tr hX hμ1f
  have hd1 : vw μ1 26 = d := by rw [hμ1v]; exact hX.1
  refine z_iload_n hC dX7_port_5 rfl ?_
  refine z_iload_n hC dX7_port_6 rfl ?_
  refine z_iload_n hC dX7_port_7 rfl ?_
  refine z_callV hC [.int (iZ p), .int (iZ x), .int (iZ y)] 3 rfl dX7_port_8 (fun l => m_X2_movePort l G ca ad _ μ1 26 zb_26 d hd1 p x y hp hx hy hI.1) qM_X7_44 qI_X2_movePort qS_X2_movePort qi_X2 qC_X2_movePort (by decide +kernel) (by decide) (by decide) (cl_desk zb_26) (cd_desk (ca := ca) (ad := ad) zb_26) rfl (Nat.le_of_ble_eq_true rfl) (zk_int (fun μ2 hμ2 => ?_)) rfl
  obtain ⟨hμ2v, hμ2f⟩ := id hμ2
  have hX2 := zSt_tr hX1 hμ2f
  refine z_callV hC [.int (iZ ((opPort d p x y).1))] 1 rfl dX7_port_11 (fun l => m_X7_keep l G ca ad _ μ2 d n h L t hX2 (opPort d p x y).1 (opPort d p x y).2 hr hμ2v) qM_X7_48 qI_X7_keep qS_X7_keep qi_X7 qC_X7_keep (by decide +kernel) (by decide) (by decide) cl_main (cd_main (ca := ca) (ad := ad)) rfl (Nat.le_of_ble_eq_true rfl) (zk_int (fun μ3 hμ3 => ?_)) rfl
  exact z_iret hC dX7_port_14 ⟨rfl, hμ3⟩

set_option maxHeartbeats 4000000 in
set_option maxRecDepth 100000 in
/-- ship -/
theorem m_X7_ship (l : Launch) (G : va_G) (ca : Nat → ClassId) (ad : Int → Nat) (A : Nat → Prop) (μ : zM) (d : zM) (n : Int) (h : Int → zM) (L : Int) (t : Int → Int) (hX : zSt μ d n h L t) (hI : zInv d) (z v u p w : Int) (hz : -2147483648 ≤ z ∧ z ≤ 2147483647) (hv : -2147483648 ≤ v ∧ v ≤ 2147483647) (hu : -2147483648 ≤ u ∧ u ≤ 2147483647) (hp : -2147483648 ≤ p ∧ p ≤ 2147483647) (hw : -2147483648 ≤ w ∧ w ≤ 2147483647) (hr : -2147483648 ≤ (opShip d z v u p w).1 ∧ (opShip d z v u p w).1 ≤ 2147483647) : zMet l (cω G ca ad) A yX7_ship cX7_ship 6 (some .int) 5 125 [.ref (ad 156), .int (iZ z), .int (iZ v), .int (iZ u), .int (iZ p), .int (iZ w)] μ (zpI (.int (iZ (opShip d z v u p w).1)) (fun μ' => zStK μ' (sKeep (opShip d z v u p w) d n h) L t)) := by
  refine zMet_of (by decide) (Nat.le_of_ble_eq_true rfl) (fun Γ hC => ?_)
  show Z Γ _ μ 0 [(0, .ref (ad 156)), (1, .int (iZ z)), (2, .int (iZ v)), (3, .int (iZ u)), (4, .int (iZ p)), (5, .int (iZ w))] []
  refine z_aload_n hC dX7_ship_0 rfl ?_
  refine z_aload_n hC dX7_ship_1 rfl ?_
  refine z_callV hC [] 0 rfl dX7_ship_2 (fun l => m_X7_freshTrial l G ca ad _ μ) qM_X7_40 qI_X7_freshTrial qS_X7_freshTrial qi_X7 qC_X7_freshTrial (by decide +kernel) (by decide) (by decide) cl_main (cd_main (ca := ca) (ad := ad)) rfl (Nat.le_of_ble_eq_true rfl) (zk_int (fun μ1 hμ1 => ?_)) rfl
  obtain ⟨hμ1v, hμ1f⟩ := id hμ1
  have hX1 := zSt_tr hX hμ1f
  have hd1 : vw μ1 26 = d := by rw [hμ1v]; exact hX.1
  refine z_iload_n hC dX7_ship_5 rfl ?_
  refine z_iload_n hC dX7_ship_6 rfl ?_
  refine z_iload_n hC dX7_ship_7 rfl ?_
  refine z_iload hC dX7_ship_8 rfl ?_
  refine z_iload hC dX7_ship_10 rfl ?_
  refine z_callV hC [.int (iZ z), .int (iZ v), .int (iZ u), .int (iZ p), .int (iZ w)] 5 rfl dX7_ship_12 (fun l => m_X2_addShip l G ca ad _ μ1 26 zb_26 d hd1 z v u p w hz hv hu hp hw hI.1.1) qM_X7_52 qI_X2_addShip qS_X2_addShip qi_X2 qC_X2_addShip (by decide +kernel) (by decide) (by decide) (cl_desk zb_26) (cd_desk (ca := ca) (ad := ad) zb_26) rfl (Nat.le_of_ble_eq_true rfl) (zk_int (fun μ2 hμ2 => ?_)) rfl
  obtain ⟨hμ2v, hμ2f⟩ := id hμ2
  have hX2 := zSt_tr hX1 hμ2f
  refine z_callV hC [.int (iZ ((opShip d z v u p w).1))] 1 rfl dX7_ship_15 (fun l => m_X7_keep l G ca ad _ μ2 d n h L t hX2 (opShip d z v u p w).1 (opShip d z v u p w).2 hr hμ2v) qM_X7_48 qI_X7_keep qS_X7_keep qi_X7 qC_X7_keep (by decide +kernel) (by decide) (by decide) cl_main (cd_main (ca := ca) (ad := ad)) rfl (Nat.le_of_ble_eq_true rfl) (zk_int (fun μ3 hμ3 => ?_)) rfl
  exact z_iret hC dX7_ship_18 ⟨rfl, hμ3⟩

set_option maxHeartbeats 4000000 in
set_option maxRecDepth 100000 in
/-- cargo -/
theorem m_X7_cargo (l : Launch) (G : va_G) (ca : Nat → ClassId) (ad : Int → Nat) (A : Nat → Prop) (μ : zM) (d : zM) (n : Int) (h : Int → zM) (L : Int) (t : Int → Int) (hX : zSt μ d n h L t) (hI : zInv d) (a g u f v w : Int) (ha : -2147483648 ≤ a ∧ a ≤ 2147483647) (hg : -2147483648 ≤ g ∧ g ≤ 2147483647) (hu : -2147483648 ≤ u ∧ u ≤ 2147483647) (hf : -2147483648 ≤ f ∧ f ≤ 2147483647) (hv : -2147483648 ≤ v ∧ v ≤ 2147483647) (hw : -2147483648 ≤ w ∧ w ≤ 2147483647) (hr : -2147483648 ≤ (opCargo d a g u f v w).1 ∧ (opCargo d a g u f v w).1 ≤ 2147483647) : zMet l (cω G ca ad) A yX7_cargo cX7_cargo 7 (some .int) 5 125 [.ref (ad 156), .int (iZ a), .int (iZ g), .int (iZ u), .int (iZ f), .int (iZ v), .int (iZ w)] μ (zpI (.int (iZ (opCargo d a g u f v w).1)) (fun μ' => zStK μ' (sKeep (opCargo d a g u f v w) d n h) L t)) := by
  refine zMet_of (by decide) (Nat.le_of_ble_eq_true rfl) (fun Γ hC => ?_)
  show Z Γ _ μ 0 [(0, .ref (ad 156)), (1, .int (iZ a)), (2, .int (iZ g)), (3, .int (iZ u)), (4, .int (iZ f)), (5, .int (iZ v)), (6, .int (iZ w))] []
  refine z_aload_n hC dX7_cargo_0 rfl ?_
  refine z_aload_n hC dX7_cargo_1 rfl ?_
  refine z_callV hC [] 0 rfl dX7_cargo_2 (fun l => m_X7_freshTrial l G ca ad _ μ) qM_X7_40 qI_X7_freshTrial qS_X7_freshTrial qi_X7 qC_X7_freshTrial (by decide +kernel) (by decide) (by decide) cl_main (cd_main (ca := ca) (ad := ad)) rfl (Nat.le_of_ble_eq_true rfl) (zk_int (fun μ1 hμ1 => ?_)) rfl
  obtain ⟨hμ1v, hμ1f⟩ := id hμ1
  have hX1 := zSt_tr hX hμ1f
  have hd1 : vw μ1 26 = d := by rw [hμ1v]; exact hX.1
  refine z_iload_n hC dX7_cargo_5 rfl ?_
  refine z_iload_n hC dX7_cargo_6 rfl ?_
  refine z_iload_n hC dX7_cargo_7 rfl ?_
  refine z_iload hC dX7_cargo_8 rfl ?_
  refine z_iload hC dX7_cargo_10 rfl ?_
  refine z_iload hC dX7_cargo_12 rfl ?_
  refine z_callV hC [.int (iZ a), .int (iZ g), .int (iZ u), .int (iZ f), .int (iZ v), .int (iZ w)] 6 rfl dX7_cargo_14 (fun l => m_X2_addCargo l G ca ad _ μ1 26 zb_26 d hd1 a g u f v w ha hg hu hf hv hw hI.1.1) qM_X7_56 qI_X2_addCargo qS_X2_addCargo qi_X2 qC_X2_addCargo (by decide +kernel) (by decide) (by decide) (cl_desk zb_26) (cd_desk (ca := ca) (ad := ad) zb_26) rfl (Nat.le_of_ble_eq_true rfl) (zk_int (fun μ2 hμ2 => ?_)) rfl
  obtain ⟨hμ2v, hμ2f⟩ := id hμ2
  have hX2 := zSt_tr hX1 hμ2f
  refine z_callV hC [.int (iZ ((opCargo d a g u f v w).1))] 1 rfl dX7_cargo_17 (fun l => m_X7_keep l G ca ad _ μ2 d n h L t hX2 (opCargo d a g u f v w).1 (opCargo d a g u f v w).2 hr hμ2v) qM_X7_48 qI_X7_keep qS_X7_keep qi_X7 qC_X7_keep (by decide +kernel) (by decide) (by decide) cl_main (cd_main (ca := ca) (ad := ad)) rfl (Nat.le_of_ble_eq_true rfl) (zk_int (fun μ3 hμ3 => ?_)) rfl
  exact z_iret hC dX7_cargo_20 ⟨rfl, hμ3⟩

set_option maxHeartbeats 4000000 in
set_option maxRecDepth 100000 in
/-- fix -/
theorem m_X7_fix (l : Launch) (G : va_G) (ca : Nat → ClassId) (ad : Int → Nat) (A : Nat → Prop) (μ : zM) (d : zM) (n : Int) (h : Int → zM) (L : Int) (t : Int → Int) (hX : zSt μ d n h L t) (hI : zInv d) (k c : Int) (hk : -2147483648 ≤ k ∧ k ≤ 2147483647) (hc : -2147483648 ≤ c ∧ c ≤ 2147483647) (hr : -2147483648 ≤ (opFix d k c).1 ∧ (opFix d k c).1 ≤ 2147483647) : zMet l (cω G ca ad) A yX7_fix cX7_fix 3 (some .int) 5 136 [.ref (ad 156), .int (iZ k), .int (iZ c)] μ (zpI (.int (iZ (opFix d k c).1)) (fun μ' => zStK μ' (sKeep (opFix d k c) d n h) L t)) := by
  refine zMet_of (by decide) (Nat.le_of_ble_eq_true rfl) (fun Γ hC => ?_)
  show Z Γ _ μ 0 [(0, .ref (ad 156)), (1, .int (iZ k)), (2, .int (iZ c))] []
  refine z_aload_n hC dX7_fix_0 rfl ?_
  refine z_aload_n hC dX7_fix_1 rfl ?_
  refine z_callV hC [] 0 rfl dX7_fix_2 (fun l => m_X7_freshTrial l G ca ad _ μ) qM_X7_40 qI_X7_freshTrial qS_X7_freshTrial qi_X7 qC_X7_freshTrial (by decide +kernel) (by decide) (by decide) cl_main (cd_main (ca := ca) (ad := ad)) rfl (Nat.le_of_ble_eq_true rfl) (zk_int (fun μ1 hμ1 => ?_)) rfl
  obtain ⟨hμ1v, hμ1f⟩ := id hμ1
  have hX1 := zSt_tr hX hμ1f
  have hd1 : vw μ1 26 = d := by rw [hμ1v]; exact hX.1
  refine z_iload_n hC dX7_fix_5 rfl ?_
  refine z_iload_n hC dX7_fix_6 rfl ?_
  refine z_callV hC [.int (iZ k), .int (iZ c)] 2 rfl dX7_fix_7 (fun l => m_X2_fixShip l G ca ad _ μ1 26 zb_26 d hd1 k c hk hc hI.1 (zInv_G hI) (zInv_full hI)) qM_X7_60 qI_X2_fixShip qS_X2_fixShip qi_X2 qC_X2_fixShip (by decide +kernel) (by decide) (by decide) (cl_desk zb_26) (cd_desk (ca := ca) (ad := ad) zb_26) rfl (Nat.le_of_ble_eq_true rfl) (zk_int (fun μ2 hμ2 => ?_)) rfl
  obtain ⟨hμ2v, hμ2f⟩ := id hμ2
  have hX2 := zSt_tr hX1 hμ2f
  refine z_callV hC [.int (iZ ((opFix d k c).1))] 1 rfl dX7_fix_10 (fun l => m_X7_keep l G ca ad _ μ2 d n h L t hX2 (opFix d k c).1 (opFix d k c).2 hr hμ2v) qM_X7_48 qI_X7_keep qS_X7_keep qi_X7 qC_X7_keep (by decide +kernel) (by decide) (by decide) cl_main (cd_main (ca := ca) (ad := ad)) rfl (Nat.le_of_ble_eq_true rfl) (zk_int (fun μ3 hμ3 => ?_)) rfl
  exact z_iret hC dX7_fix_13 ⟨rfl, hμ3⟩

set_option maxHeartbeats 4000000 in
set_option maxRecDepth 100000 in
/-- delay -/
theorem m_X7_delay (l : Launch) (G : va_G) (ca : Nat → ClassId) (ad : Int → Nat) (A : Nat → Prop) (μ : zM) (d : zM) (n : Int) (h : Int → zM) (L : Int) (t : Int → Int) (hX : zSt μ d n h L t) (hI : zInv d) (k v : Int) (hk : -2147483648 ≤ k ∧ k ≤ 2147483647) (hv : -2147483648 ≤ v ∧ v ≤ 2147483647) (hr : -2147483648 ≤ (opDelay d k v).1 ∧ (opDelay d k v).1 ≤ 2147483647) : zMet l (cω G ca ad) A yX7_delay cX7_delay 3 (some .int) 5 125 [.ref (ad 156), .int (iZ k), .int (iZ v)] μ (zpI (.int (iZ (opDelay d k v).1)) (fun μ' => zStK μ' (sKeep (opDelay d k v) d n h) L t)) := by
  refine zMet_of (by decide) (Nat.le_of_ble_eq_true rfl) (fun Γ hC => ?_)
  show Z Γ _ μ 0 [(0, .ref (ad 156)), (1, .int (iZ k)), (2, .int (iZ v))] []
  refine z_aload_n hC dX7_delay_0 rfl ?_
  refine z_aload_n hC dX7_delay_1 rfl ?_
  refine z_callV hC [] 0 rfl dX7_delay_2 (fun l => m_X7_freshTrial l G ca ad _ μ) qM_X7_40 qI_X7_freshTrial qS_X7_freshTrial qi_X7 qC_X7_freshTrial (by decide +kernel) (by decide) (by decide) cl_main (cd_main (ca := ca) (ad := ad)) rfl (Nat.le_of_ble_eq_true rfl) (zk_int (fun μ1 hμ1 => ?_)) rfl
  obtain ⟨hμ1v, hμ1f⟩ := id hμ1
  have hX1 := zSt_tr hX hμ1f
  have hd1 : vw μ1 26 = d := by rw [hμ1v]; exact hX.1
  refine z_iload_n hC dX7_delay_5 rfl ?_
  refine z_iload_n hC dX7_delay_6 rfl ?_
  refine z_callV hC [.int (iZ k), .int (iZ v)] 2 rfl dX7_delay_7 (fun l => m_X2_delayShip l G ca ad _ μ1 26 zb_26 d hd1 k v hk hv hI.1 (zInv_F hI)) qM_X7_64 qI_X2_delayShip qS_X2_delayShip qi_X2 qC_X2_delayShip (by decide +kernel) (by decide) (by decide) (cl_desk zb_26) (cd_desk (ca := ca) (ad := ad) zb_26) rfl (Nat.le_of_ble_eq_true rfl) (zk_int (fun μ2 hμ2 => ?_)) rfl
  obtain ⟨hμ2v, hμ2f⟩ := id hμ2
  have hX2 := zSt_tr hX1 hμ2f
  refine z_callV hC [.int (iZ ((opDelay d k v).1))] 1 rfl dX7_delay_10 (fun l => m_X7_keep l G ca ad _ μ2 d n h L t hX2 (opDelay d k v).1 (opDelay d k v).2 hr hμ2v) qM_X7_48 qI_X7_keep qS_X7_keep qi_X7 qC_X7_keep (by decide +kernel) (by decide) (by decide) cl_main (cd_main (ca := ca) (ad := ad)) rfl (Nat.le_of_ble_eq_true rfl) (zk_int (fun μ3 hμ3 => ?_)) rfl
  exact z_iret hC dX7_delay_13 ⟨rfl, hμ3⟩

set_option maxHeartbeats 4000000 in
set_option maxRecDepth 100000 in
/-- callOff -/
theorem m_X7_callOff (l : Launch) (G : va_G) (ca : Nat → ClassId) (ad : Int → Nat) (A : Nat → Prop) (μ : zM) (d : zM) (n : Int) (h : Int → zM) (L : Int) (t : Int → Int) (hX : zSt μ d n h L t) (hI : zInv d) (k : Int) (hk : -2147483648 ≤ k ∧ k ≤ 2147483647) (hr : -2147483648 ≤ (opOff d k).1 ∧ (opOff d k).1 ≤ 2147483647) : zMet l (cω G ca ad) A yX7_callOff cX7_callOff 2 (some .int) 5 125 [.ref (ad 156), .int (iZ k)] μ (zpI (.int (iZ (opOff d k).1)) (fun μ' => zStK μ' (sKeep (opOff d k) d n h) L t)) := by
  refine zMet_of (by decide) (Nat.le_of_ble_eq_true rfl) (fun Γ hC => ?_)
  show Z Γ _ μ 0 [(0, .ref (ad 156)), (1, .int (iZ k))] []
  refine z_aload_n hC dX7_callOff_0 rfl ?_
  refine z_aload_n hC dX7_callOff_1 rfl ?_
  refine z_callV hC [] 0 rfl dX7_callOff_2 (fun l => m_X7_freshTrial l G ca ad _ μ) qM_X7_40 qI_X7_freshTrial qS_X7_freshTrial qi_X7 qC_X7_freshTrial (by decide +kernel) (by decide) (by decide) cl_main (cd_main (ca := ca) (ad := ad)) rfl (Nat.le_of_ble_eq_true rfl) (zk_int (fun μ1 hμ1 => ?_)) rfl
  obtain ⟨hμ1v, hμ1f⟩ := id hμ1
  have hX1 := zSt_tr hX hμ1f
  have hd1 : vw μ1 26 = d := by rw [hμ1v]; exact hX.1
  refine z_iload_n hC dX7_callOff_5 rfl ?_
  refine z_callV hC [.int (iZ k)] 1 rfl dX7_callOff_6 (fun l => m_X2_callOffLast l G ca ad _ μ1 26 zb_26 d hd1 k hk hI.1 (zInv_F hI)) qM_X7_67 qI_X2_callOffLast qS_X2_callOffLast qi_X2 qC_X2_callOffLast (by decide +kernel) (by decide) (by decide) (cl_desk zb_26) (cd_desk (ca := ca) (ad := ad) zb_26) rfl (Nat.le_of_ble_eq_true rfl) (zk_int (fun μ2 hμ2 => ?_)) rfl
  obtain ⟨hμ2v, hμ2f⟩ := id hμ2
  have hX2 := zSt_tr hX1 hμ2f
  refine z_callV hC [.int (iZ ((opOff d k).1))] 1 rfl dX7_callOff_9 (fun l => m_X7_keep l G ca ad _ μ2 d n h L t hX2 (opOff d k).1 (opOff d k).2 hr hμ2v) qM_X7_48 qI_X7_keep qS_X7_keep qi_X7 qC_X7_keep (by decide +kernel) (by decide) (by decide) cl_main (cd_main (ca := ca) (ad := ad)) rfl (Nat.le_of_ble_eq_true rfl) (zk_int (fun μ3 hμ3 => ?_)) rfl
  exact z_iret hC dX7_callOff_12 ⟨rfl, hμ3⟩

set_option maxHeartbeats 4000000 in
set_option maxRecDepth 100000 in
/-- settle -/
theorem m_X7_settle (l : Launch) (G : va_G) (ca : Nat → ClassId) (ad : Int → Nat) (A : Nat → Prop) (μ : zM) (d : zM) (n : Int) (h : Int → zM) (L : Int) (t : Int → Int) (hX : zSt μ d n h L t) (hI : zInv d) (k : Int) (hk : -2147483648 ≤ k ∧ k ≤ 2147483647) (hr : -2147483648 ≤ (opSettle d k).1 ∧ (opSettle d k).1 ≤ 2147483647) : zMet l (cω G ca ad) A yX7_settle cX7_settle 2 (some .int) 5 133 [.ref (ad 156), .int (iZ k)] μ (zpI (.int (iZ (opSettle d k).1)) (fun μ' => zStK μ' (sKeep (opSettle d k) d n h) L t)) := by
  refine zMet_of (by decide) (Nat.le_of_ble_eq_true rfl) (fun Γ hC => ?_)
  show Z Γ _ μ 0 [(0, .ref (ad 156)), (1, .int (iZ k))] []
  refine z_aload_n hC dX7_settle_0 rfl ?_
  refine z_aload_n hC dX7_settle_1 rfl ?_
  refine z_callV hC [] 0 rfl dX7_settle_2 (fun l => m_X7_freshTrial l G ca ad _ μ) qM_X7_40 qI_X7_freshTrial qS_X7_freshTrial qi_X7 qC_X7_freshTrial (by decide +kernel) (by decide) (by decide) cl_main (cd_main (ca := ca) (ad := ad)) rfl (Nat.le_of_ble_eq_true rfl) (zk_int (fun μ1 hμ1 => ?_)) rfl
  obtain ⟨hμ1v, hμ1f⟩ := id hμ1
  have hX1 := zSt_tr hX hμ1f
  have hd1 : vw μ1 26 = d := by rw [hμ1v]; exact hX.1
  refine z_iload_n hC dX7_settle_5 rfl ?_
  refine z_callV hC [.int (iZ k)] 1 rfl dX7_settle_6 (fun l => m_X2_settleShip l G ca ad _ μ1 26 zb_26 d hd1 k hk hI.1 (zInv_G hI) (zInv_F hI)) qM_X7_70 qI_X2_settleShip qS_X2_settleShip qi_X2 qC_X2_settleShip (by decide +kernel) (by decide) (by decide) (cl_desk zb_26) (cd_desk (ca := ca) (ad := ad) zb_26) rfl (Nat.le_of_ble_eq_true rfl) (zk_int (fun μ2 hμ2 => ?_)) rfl
  obtain ⟨hμ2v, hμ2f⟩ := id hμ2
  have hX2 := zSt_tr hX1 hμ2f
  refine z_callV hC [.int (iZ ((opSettle d k).1))] 1 rfl dX7_settle_9 (fun l => m_X7_keep l G ca ad _ μ2 d n h L t hX2 (opSettle d k).1 (opSettle d k).2 hr hμ2v) qM_X7_48 qI_X7_keep qS_X7_keep qi_X7 qC_X7_keep (by decide +kernel) (by decide) (by decide) cl_main (cd_main (ca := ca) (ad := ad)) rfl (Nat.le_of_ble_eq_true rfl) (zk_int (fun μ3 hμ3 => ?_)) rfl
  exact z_iret hC dX7_settle_12 ⟨rfl, hμ3⟩

set_option maxHeartbeats 4000000 in
set_option maxRecDepth 100000 in
/-- History.restore(desk) -/
theorem m_X4_restore (l : Launch) (G : va_G) (ca : Nat → ClassId) (ad : Int → Nat) (A : Nat → Prop) (μ : zM) (n : Int) (h : Int → zM) (hH : zHi μ n h) : zMet l (cω G ca ad) A yX4_restore cX4_restore 2 (some .boolean) 3 83 [.ref (ad 157), .ref (ad 0)] μ (zpI (.int (iZ (zB (1 ≤ n)))) (fun μ' => if 1 ≤ n then zHi μ' (n - 1) h ∧ vw μ' 0 = h (n - 1) ∧ (∀ c, 159 ≤ c → μ' c = μ c) else μ' = μ)) := by
  refine zMet_of (by decide) (Nat.le_of_ble_eq_true rfl) (fun Γ hC => ?_)
  show Z Γ _ μ 0 [(0, .ref (ad 157)), (1, .ref (ad 0))] []
  have hpm := hH.1
  have hn0 := hH.2.2.1
  have hn1 := hH.2.1
  refine z_aload_n hC dX4_restore_0 rfl ?_
  refine z_get hC iA_X4 rfl 1 (by decide) qF_X4_18 rfl dX4_restore_1 cl_hist (cd_hist (ca := ca) (ad := ad)) rfl ?_
  refine z_top (b := n) (by rw [hn1]) ?_
  refine z_iconst hC dX4_restore_4 ?_
  refine z_icmp_ge hC 10 dX4_restore_5 (by decide) (by omega) (by omega) (fun c_1 => ?_) (fun c_1 => ?_)
  · refine z_aload_n hC dX4_restore_10 rfl ?_
    refine z_dup hC dX4_restore_11 rfl ?_
    refine z_get hC iA_X4 rfl 1 (by decide) qF_X4_18 rfl dX4_restore_12 cl_hist (cd_hist (ca := ca) (ad := ad)) rfl ?_
    refine z_top (b := n) (by rw [hn1]) ?_
    refine z_iconst hC dX4_restore_15 ?_
    refine z_isub hC dX4_restore_16 ?_
    refine z_put hC iA_X4 rfl tyX4 tyX4_ok nmX4 1 (by decide) rfl rfl 1 rfl qF_X4_18 rfl dX4_restore_17 cl_hist (cd_hist (ca := ca) (ad := ad)) (fun _ => rfl) (fun _ => Nat.le_of_ble_eq_true rfl) ?_
    refine z_nm (fun μ2 hμ2 => ?_)
    refine z_aload_n hC dX4_restore_20 rfl ?_
    refine z_aload_n hC dX4_restore_21 rfl ?_
    refine z_get hC iA_X4 rfl 0 (by decide) qF_X4_11 rfl dX4_restore_22 cl_hist (cd_hist (ca := ca) (ad := ad)) rfl ?_
    refine z_aload_n hC dX4_restore_25 rfl ?_
    refine z_get hC iA_X4 rfl 1 (by decide) qF_X4_18 rfl dX4_restore_26 cl_hist (cd_hist (ca := ca) (ad := ad)) rfl ?_
    refine z_top (by rw [hμ2, zup_s]) ?_
    refine z_aald hC dX4_restore_29 4 rfl cl_states (fun r i => 26 * r i) (cd_states (ca := ca) (ad := ad)) (by omega) (by omega) (by decide) ?_
    refine z_topr (b := ad (26 * (μ 158 (n - 1)))) (by rw [hμ2, zup_n (by omega)]; try rfl) ?_
    have hbn21 := hpm.1 (n - 1) (by omega)
    have hpmm : zPm μ2 := by rw [hμ2]; unfold zPm; rw [zup_o (by omega)]; exact hpm
    refine z_callV hC [.ref (ad (26 * (μ 158 (n - 1))))] 1 rfl dX4_restore_30 (fun l => m_X2_copyFrom l G ca ad _ μ2 0 (26 * (μ 158 (n - 1))) zb_0 (zb_s hpm (by omega)) (by omega)) qM_X4_25 qI_X2_copyFrom qS_X2_copyFrom qi_X2 qC_X2_copyFrom (by decide +kernel) (by decide) (by decide) (cl_desk zb_0) (cd_desk (ca := ca) (ad := ad) zb_0) rfl (Nat.le_of_ble_eq_true rfl) (zk_void (fun μ3 hμ3 => ?_)) rfl
    obtain ⟨hμ3v, hμ3f⟩ := id hμ3
    refine z_iconst hC dX4_restore_33 ?_
    have hH2 : zHi μ3 (n - 1) h := zHi_cut hH (by omega) (fun c hc => by rw [hμ3f c (by omega), hμ2, zup_o (by omega)]) (by rw [hμ3f 157 (by omega), hμ2, zup_s])
    have hv2 : vw μ3 0 = h (n - 1) := by rw [hμ3v, ← hH.2.2.2 (n - 1) (by omega)]; exact vw_eq (fun o i hr => by rw [hμ2, zup_o (by unfold zrel at hr; omega)])
    exact z_zret1 hC dX4_restore_34 ⟨by rw [zB_t (by omega)], by show (if 1 ≤ n then _ else _); rw [if_pos (by omega)]; exact ⟨hH2, hv2, fun c hc => by rw [hμ3f c (by omega), hμ2, zup_o (by omega)]⟩⟩
  · refine z_iconst hC dX4_restore_8 ?_
    exact z_zret0 hC dX4_restore_9 ⟨by rw [zB_f (by omega)], by show (if 1 ≤ n then _ else _); rw [if_neg (by omega)]⟩

set_option maxHeartbeats 4000000 in
set_option maxRecDepth 100000 in
/-- undo() -/
theorem m_X7_undo (l : Launch) (G : va_G) (ca : Nat → ClassId) (ad : Int → Nat) (A : Nat → Prop) (μ : zM) (d : zM) (n : Int) (h : Int → zM) (L : Int) (t : Int → Int) (hX : zSt μ d n h L t) : zMet l (cω G ca ad) A yX7_undo cX7_undo 1 (some .int) 4 104 [.ref (ad 156)] μ (zpI (.int (iZ (opUndo d n h).1)) (fun μ' => zStK μ' (opUndo d n h).2 L t)) := by
  refine zMet_of (by decide) (Nat.le_of_ble_eq_true rfl) (fun Γ hC => ?_)
  show Z Γ _ μ 0 [(0, .ref (ad 156))] []
  refine z_aload_n hC dX7_undo_0 rfl ?_
  refine z_get hC iA_X7 rfl 2 (by decide) qF_X7_22 rfl dX7_undo_1 cl_main (cd_main (ca := ca) (ad := ad)) rfl ?_
  refine z_aload_n hC dX7_undo_4 rfl ?_
  refine z_get hC iA_X7 rfl 0 (by decide) qF_X7_10 rfl dX7_undo_5 cl_main (cd_main (ca := ca) (ad := ad)) rfl ?_
  refine z_callV hC [.ref (ad 0)] 1 rfl dX7_undo_8 (fun l => m_X4_restore l G ca ad _ μ n h hX.2.1) qM_X7_256 qI_X4_restore qS_X4_restore qi_X4 qC_X4_restore (by decide +kernel) (by decide) (by decide) cl_hist (cd_hist (ca := ca) (ad := ad)) rfl (Nat.le_of_ble_eq_true rfl) (zk_int (fun μ1 hμ1 => ?_)) rfl
  refine z_ifb_eq hC 24 dX7_undo_11 (by decide) (fun c_2 => ?_) (fun c_2 => ?_)
  · rw [if_neg (by omega)] at hμ1
    refine z_ldc hC (-1000002) qc_X7_210 rfl dX7_undo_24 ?_
    exact z_iret hC dX7_undo_26 ⟨by unfold opUndo; rw [if_neg (by omega)], by unfold opUndo; rw [if_neg (by omega), hμ1]; exact hX⟩
  · rw [if_pos (by omega)] at hμ1
    obtain ⟨hq1, hq2, hq3⟩ := hμ1
    refine z_aload_n hC dX7_undo_14 rfl ?_
    refine z_get hC iA_X7 rfl 2 (by decide) qF_X7_22 rfl dX7_undo_15 cl_main (cd_main (ca := ca) (ad := ad)) rfl ?_
    refine z_get hC iA_X4 rfl 1 (by decide) qF_X7_252 rfl dX7_undo_18 cl_hist (cd_hist (ca := ca) (ad := ad)) rfl ?_
    refine z_top (b := n - 1) (by rw [hq1.2.1]) ?_
    refine z_goto hC 26 dX7_undo_21 (by decide) ?_
    exact z_iret hC dX7_undo_26 ⟨by unfold opUndo; rw [if_pos (by omega)], by unfold opUndo; rw [if_pos (by omega)]; exact ⟨hq2, hq1, zTx_fr hX.2.2 (by rw [hq3 159 (by omega)]) (fun i _ => by rw [hq3 160 (by omega)])⟩⟩
end
section
/-! THE QUESTIONS -/
def qShip (d : zM) (k w : Int) : Int := if ¬ (0 ≤ k ∧ k < d 0 4) then -1000001 else if w = 0 then d (6 + k) 0 else if w = 1 then d (6 + k) 1 else if w = 2 then d (6 + k) 2 else if w = 3 then (sEnd d k).1 else if w = 4 then (sEnd d k).2.1 else if w = 5 then d (6 + k) 3 else if w = 6 then d (6 + k) 4 else if w = 7 then d (6 + k) 6 else if w = 8 then d (6 + k) 5 + 1000000 else if w = 9 then (sEnd d k).2.2 + 1000000 else -1000001
def qCargo (d : zM) (c w : Int) : Int := if ¬ (0 ≤ c ∧ c < d 0 5) then -1000001 else if w = 0 then d (16 + c) 0 else if w = 1 then d (16 + c) 1 else if w = 2 then d (16 + c) 2 else if w = 3 then d (16 + c) 3 else if w = 4 then d (16 + c) 4 else if w = 5 then d (16 + c) 5 else if w = 6 then d (16 + c) 6 else if w = 7 then (if d (16 + c) 6 = 1 then d (16 + c) 7 else -1000004) else -1000001
def sAt (d : zM) (k p : Int) : Int × Int × Int := sPos d k p.toNat
def qFixt (d : zM) (k p w : Int) : Int := if ¬ ((0 ≤ k ∧ k < d 0 4) ∧ 0 ≤ p ∧ (0 ≤ w ∧ w ≤ 5)) then -1000001 else if d (6 + k) 6 ≤ p then -1000004 else if w = 0 then d (11 + k) p else if w = 1 then sArr d k (d (11 + k) p) (sAt d k p).1 (sAt d k p).2.1 else if w = 2 then sLoad d k (d (11 + k) p) (sAt d k p).1 (sAt d k p).2.1 else if w = 3 then sFree d k (d (11 + k) p) (sAt d k p).1 (sAt d k p).2.1 else if w = 4 then sEarn d k (d (11 + k) p) (sAt d k p).1 (sAt d k p).2.1 + 1000000 else sMarg d k (d (11 + k) p) (sAt d k p).1 (sAt d k p).2.1
def qDist (d : zM) (p q : Int) : Int := if ¬ ((0 ≤ p ∧ p ≤ 7) ∧ (0 ≤ q ∧ q ≤ 7)) then -1000001 else sFar d p q
def qBestC (d : zM) (k : Int) (q0 : sQ) : Int := if ¬ (0 ≤ k ∧ k < d 0 4) then -1000001 else if (sAll d k 0 (d 0 5).toNat 1 q0).1 = 1 then (sAll d k 0 (d 0 5).toNat 1 q0).2.2.1 else -1000004
def qBestS (d : zM) (c : Int) (q0 : sQ) : Int := if ¬ (0 ≤ c ∧ c < d 0 5) then -1000001 else if ¬ d (16 + c) 6 = 0 then -1000002 else if (sAll d 0 c 1 (d 0 4).toNat q0).1 = 1 then (sAll d 0 c 1 (d 0 4).toNat q0).2.1 else -1000004
def qSlack (d : zM) (k : Int) : Int := if ¬ (0 ≤ k ∧ k < d 0 4) then -1000001 else sL d k (sNum d k)
def qCount (d : zM) (n L w : Int) : Int := if w = 0 then d 0 4 else if w = 1 then d 0 5 else if w = 2 then sCnt d 0 (d 0 5).toNat else if w = 3 then sCnt d 1 (d 0 5).toNat else if w = 4 then sAcc d (d 0 4).toNat + 1000000 else if w = 5 then d 0 6 else if w = 6 then d 0 7 else if w = 7 then n else if w = 8 then L else -1000001
theorem zSt_5 {μ μ' d : zM} {n L : Int} {h : Int → zM} {t : Int → Int} (H : zSt μ d n h L t) (e : ∀ c, c ≠ 0 + 5 → μ' c = μ c) : zSt μ' d n h L t := zSt_fr H (vw_fr5 e) (fun c hc => e c (by omega)) (by rw [e 159 (by omega)]) (e 160 (by omega))
theorem zSt_f2 {μ μ' d : zM} {n L : Int} {h : Int → zM} {t : Int → Int} (H : zSt μ d n h L t) (e : zF2 μ 0 μ') : zSt μ' d n h L t := zSt_fr H (vw_f2 e) (fun c hc => by funext i; exact e c i (by omega) (by omega)) (e 159 1 (by omega) (by omega)) (by funext i; exact e 160 i (by omega) (by omega))
end
section
set_option maxHeartbeats 4000000 in
set_option maxRecDepth 100000 in
/-- shipOf -/
theorem m_X7_shipOf (l : Launch) (G : va_G) (ca : Nat → ClassId) (ad : Int → Nat) (A : Nat → Prop) (μ : zM) (d : zM) (n : Int) (h : Int → zM) (L : Int) (t : Int → Int) (hX : zSt μ d n h L t) (hI : zInv d) (k w : Int) (hk : -2147483648 ≤ k ∧ k ≤ 2147483647) (hw : -2147483648 ≤ w ∧ w ≤ 2147483647) : zMet l (cω G ca ad) A yX7_shipOf cX7_shipOf 4 (some .int) 4 111 [.ref (ad 156), .int (iZ k), .int (iZ w)] μ (zpI (.int (iZ (qShip d k w))) (fun μ' => zSt μ' d n h L t)) := by
  refine zMet_of (by decide) (Nat.le_of_ble_eq_true rfl) (fun Γ hC => ?_)
  show Z Γ _ μ 0 [(0, .ref (ad 156)), (1, .int (iZ k)), (2, .int (iZ w))] []
  obtain ⟨hB, _⟩ := id hI
  obtain ⟨hN, hP, hB3, hB4⟩ := id hB
  obtain ⟨hN1, hN2⟩ := id hN
  have hG := zInv_G hI
  refine z_aload_n hC dX7_shipOf_0 rfl ?_
  refine z_get hC iA_X7 rfl 0 (by decide) qF_X7_10 rfl dX7_shipOf_1 cl_main (cd_main (ca := ca) (ad := ad)) rfl ?_
  refine z_iload_n hC dX7_shipOf_4 rfl ?_
  have hN1 : μ 0 4 = d 0 4 := by rw [← hX.1, vw_S]
  refine z_callV hC [.int (iZ k)] 1 rfl dX7_shipOf_5 (fun l => m_X2_isShip l G ca ad _ μ 0 zb_0 k (by omega) (by omega)) qM_X7_73 qI_X2_isShip qS_X2_isShip qi_X2 qC_X2_isShip (by decide +kernel) (by decide) (by decide) (cl_desk zb_0) (cd_desk (ca := ca) (ad := ad) zb_0) rfl (Nat.le_of_ble_eq_true rfl) (zk_pure ?_) rfl
  rw [hN1]
  refine z_ifb_ne hC 14 dX7_shipOf_8 (by decide) (fun c_2 => ?_) (fun c_2 => ?_)
  · obtain ⟨hs0, hs1, hs2, hs3, hs4, hs6⟩ := hB3 k (by omega)
    refine z_aload_n hC dX7_shipOf_14 rfl ?_
    refine z_get hC iA_X7 rfl 0 (by decide) qF_X7_10 rfl dX7_shipOf_15 cl_main (cd_main (ca := ca) (ad := ad)) rfl ?_
    refine z_get hC iA_X2 rfl 2 (by decide) qF_X7_78 rfl dX7_shipOf_18 (cl_desk zb_0) (cd_desk (ca := ca) (ad := ad) zb_0) rfl ?_
    refine z_iload_n hC dX7_shipOf_21 rfl ?_
    refine z_aald hC dX7_shipOf_22 2 rfl (cl_ships zb_0) (fun _ i => 0 + 6 + i) (cd_ships (ca := ca) (ad := ad) zb_0) (by omega) (by omega) (by decide) ?_
    refine z_astore_n hC dX7_shipOf_23 (by decide) rfl ?_
    refine z_iload_n hC dX7_shipOf_24 rfl ?_
    rcases (show w = 0 ∨ w = 1 ∨ w = 2 ∨ w = 3 ∨ w = 4 ∨ w = 5 ∨ w = 6 ∨ w = 7 ∨ w = 8 ∨ w = 9 ∨ (w < 0 ∨ 9 < w) by omega) with w_3 | w_3 | w_3 | w_3 | w_3 | w_3 | w_3 | w_3 | w_3 | w_3 | w_3
    · refine z_tableIn hC 80 dX7_shipOf_25 (by omega) (by omega) (by omega) (by rw [w_3]; rfl) (by decide) ?_
      refine z_aload_n hC dX7_shipOf_80 rfl ?_
      refine z_get hC iA_X6 rfl 0 (by decide) qF_X7_82 rfl dX7_shipOf_81 (cl_ship zb_0 (by omega)) (cd_ship zb_0 (by omega)) rfl ?_
      refine z_top (b := d (6 + k) 0) ((vw_ship (by omega) (by omega)).symm.trans (congrFun (congrFun hX.1 _) _)) ?_
      exact z_iret hC dX7_shipOf_84 ⟨by unfold qShip; rw [if_neg (by omega), if_pos (by omega)], hX⟩
    · refine z_tableIn hC 85 dX7_shipOf_25 (by omega) (by omega) (by omega) (by rw [w_3]; rfl) (by decide) ?_
      refine z_aload_n hC dX7_shipOf_85 rfl ?_
      refine z_get hC iA_X6 rfl 1 (by decide) qF_X7_88 rfl dX7_shipOf_86 (cl_ship zb_0 (by omega)) (cd_ship zb_0 (by omega)) rfl ?_
      refine z_top (b := d (6 + k) 1) ((vw_ship (by omega) (by omega)).symm.trans (congrFun (congrFun hX.1 _) _)) ?_
      exact z_iret hC dX7_shipOf_89 ⟨by unfold qShip; rw [if_neg (by omega), if_neg (by omega), if_pos (by omega)], hX⟩
    · refine z_tableIn hC 90 dX7_shipOf_25 (by omega) (by omega) (by omega) (by rw [w_3]; rfl) (by decide) ?_
      refine z_aload_n hC dX7_shipOf_90 rfl ?_
      refine z_get hC iA_X6 rfl 2 (by decide) qF_X7_91 rfl dX7_shipOf_91 (cl_ship zb_0 (by omega)) (cd_ship zb_0 (by omega)) rfl ?_
      refine z_top (b := d (6 + k) 2) ((vw_ship (by omega) (by omega)).symm.trans (congrFun (congrFun hX.1 _) _)) ?_
      exact z_iret hC dX7_shipOf_94 ⟨by unfold qShip; rw [if_neg (by omega), if_neg (by omega), if_neg (by omega), if_pos (by omega)], hX⟩
    · refine z_tableIn hC 95 dX7_shipOf_25 (by omega) (by omega) (by omega) (by rw [w_3]; rfl) (by decide) ?_
      refine z_aload_n hC dX7_shipOf_95 rfl ?_
      refine z_get hC iA_X7 rfl 0 (by decide) qF_X7_10 rfl dX7_shipOf_96 cl_main (cd_main (ca := ca) (ad := ad)) rfl ?_
      refine z_iload_n hC dX7_shipOf_99 rfl ?_
      refine z_callV hC [.int (iZ k)] 1 rfl dX7_shipOf_100 (fun l => m_X2_followAll l G ca ad _ μ 0 zb_0 d hX.1 k hB (by omega) (hG _ (by omega))) qM_X7_94 qI_X2_followAll qS_X2_followAll qi_X2 qC_X2_followAll (by decide +kernel) (by decide) (by decide) (cl_desk zb_0) (cd_desk (ca := ca) (ad := ad) zb_0) rfl (Nat.le_of_ble_eq_true rfl) (zk_int (fun μ4 hμ4 => ?_)) rfl
      obtain ⟨hμ4f, hμ40, hμ41, hμ46, hμ4m⟩ := id hμ4
      have hμ40 : μ4 (0 + 5) 0 = (sEnd d k).1 := hμ40
      have hμ41 : μ4 (0 + 5) 1 = (sEnd d k).2.1 := hμ41
      have hμ46 : μ4 (0 + 5) 6 = (sEnd d k).2.2 := hμ46
      have hd5 : vw μ4 0 = d := by rw [vw_fr5 hμ4f]; exact hX.1
      refine z_get hC iA_X1 rfl 0 (by decide) qF_X7_98 rfl dX7_shipOf_103 (cl_course zb_0) (cd_course (ca := ca) (ad := ad) zb_0) rfl ?_
      refine z_top (b := (sEnd d k).1) (by rw [hμ40]) ?_
      exact z_iret hC dX7_shipOf_106 ⟨by unfold qShip; rw [if_neg (by omega), if_neg (by omega), if_neg (by omega), if_neg (by omega), if_pos (by omega)], zSt_5 hX hμ4f⟩
    · refine z_tableIn hC 107 dX7_shipOf_25 (by omega) (by omega) (by omega) (by rw [w_3]; rfl) (by decide) ?_
      refine z_aload_n hC dX7_shipOf_107 rfl ?_
      refine z_get hC iA_X7 rfl 0 (by decide) qF_X7_10 rfl dX7_shipOf_108 cl_main (cd_main (ca := ca) (ad := ad)) rfl ?_
      refine z_iload_n hC dX7_shipOf_111 rfl ?_
      refine z_callV hC [.int (iZ k)] 1 rfl dX7_shipOf_112 (fun l => m_X2_followAll l G ca ad _ μ 0 zb_0 d hX.1 k hB (by omega) (hG _ (by omega))) qM_X7_94 qI_X2_followAll qS_X2_followAll qi_X2 qC_X2_followAll (by decide +kernel) (by decide) (by decide) (cl_desk zb_0) (cd_desk (ca := ca) (ad := ad) zb_0) rfl (Nat.le_of_ble_eq_true rfl) (zk_int (fun μ6 hμ6 => ?_)) rfl
      obtain ⟨hμ6f, hμ60, hμ61, hμ66, hμ6m⟩ := id hμ6
      have hμ60 : μ6 (0 + 5) 0 = (sEnd d k).1 := hμ60
      have hμ61 : μ6 (0 + 5) 1 = (sEnd d k).2.1 := hμ61
      have hμ66 : μ6 (0 + 5) 6 = (sEnd d k).2.2 := hμ66
      have hd7 : vw μ6 0 = d := by rw [vw_fr5 hμ6f]; exact hX.1
      refine z_get hC iA_X1 rfl 1 (by decide) qF_X7_103 rfl dX7_shipOf_115 (cl_course zb_0) (cd_course (ca := ca) (ad := ad) zb_0) rfl ?_
      refine z_top (b := (sEnd d k).2.1) (by rw [hμ61]) ?_
      exact z_iret hC dX7_shipOf_118 ⟨by unfold qShip; rw [if_neg (by omega), if_neg (by omega), if_neg (by omega), if_neg (by omega), if_neg (by omega), if_pos (by omega)], zSt_5 hX hμ6f⟩
    · refine z_tableIn hC 119 dX7_shipOf_25 (by omega) (by omega) (by omega) (by rw [w_3]; rfl) (by decide) ?_
      refine z_aload_n hC dX7_shipOf_119 rfl ?_
      refine z_get hC iA_X6 rfl 3 (by decide) qF_X7_106 rfl dX7_shipOf_120 (cl_ship zb_0 (by omega)) (cd_ship zb_0 (by omega)) rfl ?_
      refine z_top (b := d (6 + k) 3) ((vw_ship (by omega) (by omega)).symm.trans (congrFun (congrFun hX.1 _) _)) ?_
      exact z_iret hC dX7_shipOf_123 ⟨by unfold qShip; rw [if_neg (by omega), if_neg (by omega), if_neg (by omega), if_neg (by omega), if_neg (by omega), if_neg (by omega), if_pos (by omega)], hX⟩
    · refine z_tableIn hC 124 dX7_shipOf_25 (by omega) (by omega) (by omega) (by rw [w_3]; rfl) (by decide) ?_
      refine z_aload_n hC dX7_shipOf_124 rfl ?_
      refine z_get hC iA_X6 rfl 4 (by decide) qF_X7_109 rfl dX7_shipOf_125 (cl_ship zb_0 (by omega)) (cd_ship zb_0 (by omega)) rfl ?_
      refine z_top (b := d (6 + k) 4) ((vw_ship (by omega) (by omega)).symm.trans (congrFun (congrFun hX.1 _) _)) ?_
      exact z_iret hC dX7_shipOf_128 ⟨by unfold qShip; rw [if_neg (by omega), if_neg (by omega), if_neg (by omega), if_neg (by omega), if_neg (by omega), if_neg (by omega), if_neg (by omega), if_pos (by omega)], hX⟩
    · refine z_tableIn hC 129 dX7_shipOf_25 (by omega) (by omega) (by omega) (by rw [w_3]; rfl) (by decide) ?_
      refine z_aload_n hC dX7_shipOf_129 rfl ?_
      refine z_get hC iA_X6 rfl 6 (by decide) qF_X7_112 rfl dX7_shipOf_130 (cl_ship zb_0 (by omega)) (cd_ship zb_0 (by omega)) rfl ?_
      refine z_top (b := d (6 + k) 6) ((vw_ship (by omega) (by omega)).symm.trans (congrFun (congrFun hX.1 _) _)) ?_
      exact z_iret hC dX7_shipOf_133 ⟨by unfold qShip; rw [if_neg (by omega), if_neg (by omega), if_neg (by omega), if_neg (by omega), if_neg (by omega), if_neg (by omega), if_neg (by omega), if_neg (by omega), if_pos (by omega)], hX⟩
    · refine z_tableIn hC 134 dX7_shipOf_25 (by omega) (by omega) (by omega) (by rw [w_3]; rfl) (by decide) ?_
      refine z_aload_n hC dX7_shipOf_134 rfl ?_
      refine z_get hC iA_X6 rfl 5 (by decide) qF_X7_115 rfl dX7_shipOf_135 (cl_ship zb_0 (by omega)) (cd_ship zb_0 (by omega)) rfl ?_
      refine z_top (b := d (6 + k) 5) ((vw_ship (by omega) (by omega)).symm.trans (congrFun (congrFun hX.1 _) _)) ?_
      refine z_ldc hC (1000000) qc_X7_118 rfl dX7_shipOf_138 ?_
      refine z_iadd hC dX7_shipOf_140 ?_
      exact z_iret hC dX7_shipOf_141 ⟨by unfold qShip; rw [if_neg (by omega), if_neg (by omega), if_neg (by omega), if_neg (by omega), if_neg (by omega), if_neg (by omega), if_neg (by omega), if_neg (by omega), if_neg (by omega), if_pos (by omega)], hX⟩
    · refine z_tableIn hC 142 dX7_shipOf_25 (by omega) (by omega) (by omega) (by rw [w_3]; rfl) (by decide) ?_
      refine z_aload_n hC dX7_shipOf_142 rfl ?_
      refine z_get hC iA_X7 rfl 0 (by decide) qF_X7_10 rfl dX7_shipOf_143 cl_main (cd_main (ca := ca) (ad := ad)) rfl ?_
      refine z_iload_n hC dX7_shipOf_146 rfl ?_
      refine z_callV hC [.int (iZ k)] 1 rfl dX7_shipOf_147 (fun l => m_X2_followAll l G ca ad _ μ 0 zb_0 d hX.1 k hB (by omega) (hG _ (by omega))) qM_X7_94 qI_X2_followAll qS_X2_followAll qi_X2 qC_X2_followAll (by decide +kernel) (by decide) (by decide) (cl_desk zb_0) (cd_desk (ca := ca) (ad := ad) zb_0) rfl (Nat.le_of_ble_eq_true rfl) (zk_int (fun μ8 hμ8 => ?_)) rfl
      obtain ⟨hμ8f, hμ80, hμ81, hμ86, hμ8m⟩ := id hμ8
      have hμ80 : μ8 (0 + 5) 0 = (sEnd d k).1 := hμ80
      have hμ81 : μ8 (0 + 5) 1 = (sEnd d k).2.1 := hμ81
      have hμ86 : μ8 (0 + 5) 6 = (sEnd d k).2.2 := hμ86
      have hd9 : vw μ8 0 = d := by rw [vw_fr5 hμ8f]; exact hX.1
      refine z_get hC iA_X1 rfl 6 (by decide) qF_X7_119 rfl dX7_shipOf_150 (cl_course zb_0) (cd_course (ca := ca) (ad := ad) zb_0) rfl ?_
      refine z_top (b := (sEnd d k).2.2) (by rw [hμ86]) ?_
      refine z_ldc hC (1000000) qc_X7_118 rfl dX7_shipOf_153 ?_
      refine z_iadd hC dX7_shipOf_155 ?_
      exact z_iret hC dX7_shipOf_156 ⟨by unfold qShip; rw [if_neg (by omega), if_neg (by omega), if_neg (by omega), if_neg (by omega), if_neg (by omega), if_neg (by omega), if_neg (by omega), if_neg (by omega), if_neg (by omega), if_neg (by omega), if_pos (by omega)], zSt_5 hX hμ8f⟩
    · refine z_tableOut hC 157 dX7_shipOf_25 (by omega) (by omega) (by decide) ?_
      refine z_ldc hC (-1000001) qc_X7_77 rfl dX7_shipOf_157 ?_
      exact z_iret hC dX7_shipOf_159 ⟨by unfold qShip; rw [if_neg (by omega), if_neg (by omega), if_neg (by omega), if_neg (by omega), if_neg (by omega), if_neg (by omega), if_neg (by omega), if_neg (by omega), if_neg (by omega), if_neg (by omega), if_neg (by omega)], hX⟩
  · refine z_ldc hC (-1000001) qc_X7_77 rfl dX7_shipOf_11 ?_
    exact z_iret hC dX7_shipOf_13 ⟨by unfold qShip; rw [if_pos (by omega)], hX⟩

set_option maxHeartbeats 4000000 in
set_option maxRecDepth 100000 in
/-- cargoOf -/
theorem m_X7_cargoOf (l : Launch) (G : va_G) (ca : Nat → ClassId) (ad : Int → Nat) (A : Nat → Prop) (μ : zM) (d : zM) (n : Int) (h : Int → zM) (L : Int) (t : Int → Int) (hX : zSt μ d n h L t) (hI : zInv d) (c w : Int) (hc : -2147483648 ≤ c ∧ c ≤ 2147483647) (hw : -2147483648 ≤ w ∧ w ≤ 2147483647) : zMet l (cω G ca ad) A yX7_cargoOf cX7_cargoOf 4 (some .int) 1 21 [.ref (ad 156), .int (iZ c), .int (iZ w)] μ (zpI (.int (iZ (qCargo d c w))) (fun μ' => zSt μ' d n h L t)) := by
  refine zMet_of (by decide) (Nat.le_of_ble_eq_true rfl) (fun Γ hC => ?_)
  show Z Γ _ μ 0 [(0, .ref (ad 156)), (1, .int (iZ c)), (2, .int (iZ w))] []
  obtain ⟨hB, _⟩ := id hI
  obtain ⟨hN, hP, hB3, hB4⟩ := id hB
  obtain ⟨hN1, hN2⟩ := id hN
  have hG := zInv_G hI
  refine z_aload_n hC dX7_cargoOf_0 rfl ?_
  refine z_get hC iA_X7 rfl 0 (by decide) qF_X7_10 rfl dX7_cargoOf_1 cl_main (cd_main (ca := ca) (ad := ad)) rfl ?_
  refine z_iload_n hC dX7_cargoOf_4 rfl ?_
  have hN1 : μ 0 5 = d 0 5 := by rw [← hX.1, vw_Cn]
  refine z_callV hC [.int (iZ c)] 1 rfl dX7_cargoOf_5 (fun l => m_X2_isCargo l G ca ad _ μ 0 zb_0 c (by omega) (by omega)) qM_X7_122 qI_X2_isCargo qS_X2_isCargo qi_X2 qC_X2_isCargo (by decide +kernel) (by decide) (by decide) (cl_desk zb_0) (cd_desk (ca := ca) (ad := ad) zb_0) rfl (Nat.le_of_ble_eq_true rfl) (zk_pure ?_) rfl
  rw [hN1]
  refine z_ifb_ne hC 14 dX7_cargoOf_8 (by decide) (fun c_2 => ?_) (fun c_2 => ?_)
  · obtain ⟨hc0, hc1, hc2, hc3, hc4, hc5, hc6⟩ := hB4 c (by omega)
    refine z_aload_n hC dX7_cargoOf_14 rfl ?_
    refine z_get hC iA_X7 rfl 0 (by decide) qF_X7_10 rfl dX7_cargoOf_15 cl_main (cd_main (ca := ca) (ad := ad)) rfl ?_
    refine z_get hC iA_X2 rfl 3 (by decide) qF_X7_125 rfl dX7_cargoOf_18 (cl_desk zb_0) (cd_desk (ca := ca) (ad := ad) zb_0) rfl ?_
    refine z_iload_n hC dX7_cargoOf_21 rfl ?_
    refine z_aald hC dX7_cargoOf_22 3 rfl (cl_cargoes zb_0) (fun _ i => 0 + 16 + i) (cd_cargoes (ca := ca) (ad := ad) zb_0) (by omega) (by omega) (by decide) ?_
    refine z_astore_n hC dX7_cargoOf_23 (by decide) rfl ?_
    refine z_iload_n hC dX7_cargoOf_24 rfl ?_
    rcases (show w = 0 ∨ w = 1 ∨ w = 2 ∨ w = 3 ∨ w = 4 ∨ w = 5 ∨ w = 6 ∨ w = 7 ∨ (w < 0 ∨ 7 < w) by omega) with w_3 | w_3 | w_3 | w_3 | w_3 | w_3 | w_3 | w_3 | w_3
    · refine z_tableIn hC 72 dX7_cargoOf_25 (by omega) (by omega) (by omega) (by rw [w_3]; rfl) (by decide) ?_
      refine z_aload_n hC dX7_cargoOf_72 rfl ?_
      refine z_get hC iA_X0 rfl 0 (by decide) qF_X7_129 rfl dX7_cargoOf_73 (cl_cargo zb_0 (by omega)) (cd_cargo zb_0 (by omega)) rfl ?_
      refine z_top (b := d (16 + c) 0) ((vw_cargo (by omega) (by omega)).symm.trans (congrFun (congrFun hX.1 _) _)) ?_
      exact z_iret hC dX7_cargoOf_76 ⟨by unfold qCargo; rw [if_neg (by omega), if_pos (by omega)], hX⟩
    · refine z_tableIn hC 77 dX7_cargoOf_25 (by omega) (by omega) (by omega) (by rw [w_3]; rfl) (by decide) ?_
      refine z_aload_n hC dX7_cargoOf_77 rfl ?_
      refine z_get hC iA_X0 rfl 1 (by decide) qF_X7_134 rfl dX7_cargoOf_78 (cl_cargo zb_0 (by omega)) (cd_cargo zb_0 (by omega)) rfl ?_
      refine z_top (b := d (16 + c) 1) ((vw_cargo (by omega) (by omega)).symm.trans (congrFun (congrFun hX.1 _) _)) ?_
      exact z_iret hC dX7_cargoOf_81 ⟨by unfold qCargo; rw [if_neg (by omega), if_neg (by omega), if_pos (by omega)], hX⟩
    · refine z_tableIn hC 82 dX7_cargoOf_25 (by omega) (by omega) (by omega) (by rw [w_3]; rfl) (by decide) ?_
      refine z_aload_n hC dX7_cargoOf_82 rfl ?_
      refine z_get hC iA_X0 rfl 2 (by decide) qF_X7_137 rfl dX7_cargoOf_83 (cl_cargo zb_0 (by omega)) (cd_cargo zb_0 (by omega)) rfl ?_
      refine z_top (b := d (16 + c) 2) ((vw_cargo (by omega) (by omega)).symm.trans (congrFun (congrFun hX.1 _) _)) ?_
      exact z_iret hC dX7_cargoOf_86 ⟨by unfold qCargo; rw [if_neg (by omega), if_neg (by omega), if_neg (by omega), if_pos (by omega)], hX⟩
    · refine z_tableIn hC 87 dX7_cargoOf_25 (by omega) (by omega) (by omega) (by rw [w_3]; rfl) (by decide) ?_
      refine z_aload_n hC dX7_cargoOf_87 rfl ?_
      refine z_get hC iA_X0 rfl 3 (by decide) qF_X7_140 rfl dX7_cargoOf_88 (cl_cargo zb_0 (by omega)) (cd_cargo zb_0 (by omega)) rfl ?_
      refine z_top (b := d (16 + c) 3) ((vw_cargo (by omega) (by omega)).symm.trans (congrFun (congrFun hX.1 _) _)) ?_
      exact z_iret hC dX7_cargoOf_91 ⟨by unfold qCargo; rw [if_neg (by omega), if_neg (by omega), if_neg (by omega), if_neg (by omega), if_pos (by omega)], hX⟩
    · refine z_tableIn hC 92 dX7_cargoOf_25 (by omega) (by omega) (by omega) (by rw [w_3]; rfl) (by decide) ?_
      refine z_aload_n hC dX7_cargoOf_92 rfl ?_
      refine z_get hC iA_X0 rfl 4 (by decide) qF_X7_143 rfl dX7_cargoOf_93 (cl_cargo zb_0 (by omega)) (cd_cargo zb_0 (by omega)) rfl ?_
      refine z_top (b := d (16 + c) 4) ((vw_cargo (by omega) (by omega)).symm.trans (congrFun (congrFun hX.1 _) _)) ?_
      exact z_iret hC dX7_cargoOf_96 ⟨by unfold qCargo; rw [if_neg (by omega), if_neg (by omega), if_neg (by omega), if_neg (by omega), if_neg (by omega), if_pos (by omega)], hX⟩
    · refine z_tableIn hC 97 dX7_cargoOf_25 (by omega) (by omega) (by omega) (by rw [w_3]; rfl) (by decide) ?_
      refine z_aload_n hC dX7_cargoOf_97 rfl ?_
      refine z_get hC iA_X0 rfl 5 (by decide) qF_X7_146 rfl dX7_cargoOf_98 (cl_cargo zb_0 (by omega)) (cd_cargo zb_0 (by omega)) rfl ?_
      refine z_top (b := d (16 + c) 5) ((vw_cargo (by omega) (by omega)).symm.trans (congrFun (congrFun hX.1 _) _)) ?_
      exact z_iret hC dX7_cargoOf_101 ⟨by unfold qCargo; rw [if_neg (by omega), if_neg (by omega), if_neg (by omega), if_neg (by omega), if_neg (by omega), if_neg (by omega), if_pos (by omega)], hX⟩
    · refine z_tableIn hC 102 dX7_cargoOf_25 (by omega) (by omega) (by omega) (by rw [w_3]; rfl) (by decide) ?_
      refine z_aload_n hC dX7_cargoOf_102 rfl ?_
      refine z_get hC iA_X0 rfl 6 (by decide) qF_X7_149 rfl dX7_cargoOf_103 (cl_cargo zb_0 (by omega)) (cd_cargo zb_0 (by omega)) rfl ?_
      refine z_top (b := d (16 + c) 6) ((vw_cargo (by omega) (by omega)).symm.trans (congrFun (congrFun hX.1 _) _)) ?_
      exact z_iret hC dX7_cargoOf_106 ⟨by unfold qCargo; rw [if_neg (by omega), if_neg (by omega), if_neg (by omega), if_neg (by omega), if_neg (by omega), if_neg (by omega), if_neg (by omega), if_pos (by omega)], hX⟩
    · refine z_tableIn hC 107 dX7_cargoOf_25 (by omega) (by omega) (by omega) (by rw [w_3]; rfl) (by decide) ?_
      refine z_aload_n hC dX7_cargoOf_107 rfl ?_
      refine z_get hC iA_X0 rfl 6 (by decide) qF_X7_149 rfl dX7_cargoOf_108 (cl_cargo zb_0 (by omega)) (cd_cargo zb_0 (by omega)) rfl ?_
      refine z_top (b := d (16 + c) 6) ((vw_cargo (by omega) (by omega)).symm.trans (congrFun (congrFun hX.1 _) _)) ?_
      refine z_iconst hC dX7_cargoOf_111 ?_
      refine z_icmp_ne hC 122 dX7_cargoOf_112 (by decide) (by omega) (by omega) (fun c_4 => ?_) (fun c_4 => ?_)
      · refine z_ldc hC (-1000004) qc_X7_155 rfl dX7_cargoOf_122 ?_
        exact z_iret hC dX7_cargoOf_124 ⟨by unfold qCargo; rw [if_neg (by omega), if_neg (by omega), if_neg (by omega), if_neg (by omega), if_neg (by omega), if_neg (by omega), if_neg (by omega), if_neg (by omega), if_pos (by omega), if_neg (by omega)], hX⟩
      · refine z_aload_n hC dX7_cargoOf_115 rfl ?_
        refine z_get hC iA_X0 rfl 7 (by decide) qF_X7_152 rfl dX7_cargoOf_116 (cl_cargo zb_0 (by omega)) (cd_cargo zb_0 (by omega)) rfl ?_
        refine z_top (b := d (16 + c) 7) ((vw_cargo (by omega) (by omega)).symm.trans (congrFun (congrFun hX.1 _) _)) ?_
        refine z_goto hC 124 dX7_cargoOf_119 (by decide) ?_
        exact z_iret hC dX7_cargoOf_124 ⟨by unfold qCargo; rw [if_neg (by omega), if_neg (by omega), if_neg (by omega), if_neg (by omega), if_neg (by omega), if_neg (by omega), if_neg (by omega), if_neg (by omega), if_pos (by omega), if_pos (by omega)], hX⟩
    · refine z_tableOut hC 125 dX7_cargoOf_25 (by omega) (by omega) (by decide) ?_
      refine z_ldc hC (-1000001) qc_X7_77 rfl dX7_cargoOf_125 ?_
      exact z_iret hC dX7_cargoOf_127 ⟨by unfold qCargo; rw [if_neg (by omega), if_neg (by omega), if_neg (by omega), if_neg (by omega), if_neg (by omega), if_neg (by omega), if_neg (by omega), if_neg (by omega), if_neg (by omega)], hX⟩
  · refine z_ldc hC (-1000001) qc_X7_77 rfl dX7_cargoOf_11 ?_
    exact z_iret hC dX7_cargoOf_13 ⟨by unfold qCargo; rw [if_pos (by omega)], hX⟩

set_option maxHeartbeats 4000000 in
set_option maxRecDepth 100000 in
/-- fixtureOf -/
theorem m_X7_fixtureOf (l : Launch) (G : va_G) (ca : Nat → ClassId) (ad : Int → Nat) (A : Nat → Prop) (μ : zM) (d : zM) (n : Int) (h : Int → zM) (L : Int) (t : Int → Int) (hX : zSt μ d n h L t) (hI : zInv d) (k p w : Int) (hk : -2147483648 ≤ k ∧ k ≤ 2147483647) (hp : -2147483648 ≤ p ∧ p ≤ 2147483647) (hw : -2147483648 ≤ w ∧ w ≤ 2147483647) : zMet l (cω G ca ad) A yX7_fixtureOf cX7_fixtureOf 6 (some .int) 3 90 [.ref (ad 156), .int (iZ k), .int (iZ p), .int (iZ w)] μ (zpI (.int (iZ (qFixt d k p w))) (fun μ' => zSt μ' d n h L t)) := by
  refine zMet_of (by decide) (Nat.le_of_ble_eq_true rfl) (fun Γ hC => ?_)
  show Z Γ _ μ 0 [(0, .ref (ad 156)), (1, .int (iZ k)), (2, .int (iZ p)), (3, .int (iZ w))] []
  obtain ⟨hB, _⟩ := id hI
  obtain ⟨hN, hP, hB3, hB4⟩ := id hB
  obtain ⟨hN1, hN2⟩ := id hN
  have hG := zInv_G hI
  refine z_aload_n hC dX7_fixtureOf_0 rfl ?_
  refine z_get hC iA_X7 rfl 0 (by decide) qF_X7_10 rfl dX7_fixtureOf_1 cl_main (cd_main (ca := ca) (ad := ad)) rfl ?_
  refine z_iload_n hC dX7_fixtureOf_4 rfl ?_
  have hN1 : μ 0 4 = d 0 4 := by rw [← hX.1, vw_S]
  refine z_callV hC [.int (iZ k)] 1 rfl dX7_fixtureOf_5 (fun l => m_X2_isShip l G ca ad _ μ 0 zb_0 k (by omega) (by omega)) qM_X7_73 qI_X2_isShip qS_X2_isShip qi_X2 qC_X2_isShip (by decide +kernel) (by decide) (by decide) (cl_desk zb_0) (cd_desk (ca := ca) (ad := ad) zb_0) rfl (Nat.le_of_ble_eq_true rfl) (zk_pure ?_) rfl
  rw [hN1]
  refine z_ifb_eq hC 24 dX7_fixtureOf_8 (by decide) (fun c_2 => ?_) (fun c_2 => ?_)
  · refine z_ldc hC (-1000001) qc_X7_77 rfl dX7_fixtureOf_24 ?_
    exact z_iret hC dX7_fixtureOf_26 ⟨by unfold qFixt; rw [if_pos (by omega)], hX⟩
  · refine z_iload_n hC dX7_fixtureOf_11 rfl ?_
    refine z_if_lt hC 24 dX7_fixtureOf_12 (by decide) (by omega) (fun c_3 => ?_) (fun c_3 => ?_)
    · refine z_ldc hC (-1000001) qc_X7_77 rfl dX7_fixtureOf_24 ?_
      exact z_iret hC dX7_fixtureOf_26 ⟨by unfold qFixt; rw [if_pos (by omega)], hX⟩
    · refine z_iload_n hC dX7_fixtureOf_15 rfl ?_
      refine z_iconst hC dX7_fixtureOf_16 ?_
      refine z_iconst hC dX7_fixtureOf_17 ?_
      refine z_callS hC [.int (iZ w), .int (iZ 0), .int (iZ 5)] 3 rfl dX7_fixtureOf_18 (fun l => m_X7_isIn l _ _ _ w 0 5 (by omega) (by omega) (by omega)) qM_X7_156 qT_X7_isIn qi_X7 qC_X7_isIn (by decide +kernel) (by decide) (by decide) (Nat.le_of_ble_eq_true rfl) (zk_pure ?_) rfl
      refine z_ifb_ne hC 27 dX7_fixtureOf_21 (by decide) (fun c_4 => ?_) (fun c_4 => ?_)
      · obtain ⟨hs0, hs1, hs2, hs3, hs4, hs6⟩ := hB3 k (by omega)
        refine z_aload_n hC dX7_fixtureOf_27 rfl ?_
        refine z_get hC iA_X7 rfl 0 (by decide) qF_X7_10 rfl dX7_fixtureOf_28 cl_main (cd_main (ca := ca) (ad := ad)) rfl ?_
        refine z_get hC iA_X2 rfl 2 (by decide) qF_X7_78 rfl dX7_fixtureOf_31 (cl_desk zb_0) (cd_desk (ca := ca) (ad := ad) zb_0) rfl ?_
        refine z_iload_n hC dX7_fixtureOf_34 rfl ?_
        refine z_aald hC dX7_fixtureOf_35 2 rfl (cl_ships zb_0) (fun _ i => 0 + 6 + i) (cd_ships (ca := ca) (ad := ad) zb_0) (by omega) (by omega) (by decide) ?_
        refine z_astore hC dX7_fixtureOf_36 (by decide) rfl ?_
        refine z_iload_n hC dX7_fixtureOf_38 rfl ?_
        refine z_aload hC dX7_fixtureOf_39 rfl ?_
        refine z_get hC iA_X6 rfl 6 (by decide) qF_X7_112 rfl dX7_fixtureOf_41 (cl_ship zb_0 (by omega)) (cd_ship zb_0 (by omega)) rfl ?_
        refine z_top (b := d (6 + k) 6) ((vw_ship (by omega) (by omega)).symm.trans (congrFun (congrFun hX.1 _) _)) ?_
        refine z_icmp_lt hC 50 dX7_fixtureOf_44 (by decide) (by omega) (by omega) (fun c_5 => ?_) (fun c_5 => ?_)
        · refine z_aload_n hC dX7_fixtureOf_50 rfl ?_
          refine z_get hC iA_X7 rfl 0 (by decide) qF_X7_10 rfl dX7_fixtureOf_51 cl_main (cd_main (ca := ca) (ad := ad)) rfl ?_
          refine z_iload_n hC dX7_fixtureOf_54 rfl ?_
          refine z_iload_n hC dX7_fixtureOf_55 rfl ?_
          refine z_iconst hC dX7_fixtureOf_56 ?_
          refine z_iadd hC dX7_fixtureOf_57 ?_
          have hpn : ((p.toNat : Nat) : Int) = p := Int.toNat_of_nonneg (by omega)
          have hNe := sNum_e (d := d) (k := k) (by omega)
          have hg9 : zGo d k (p.toNat + 1) := ⟨fun n hn => (hG k (by omega)).1 n (by omega), fun n hn => (hG k (by omega)).2 n (by omega)⟩
          refine z_callV hC [.int (iZ k), .int (iZ (p + 1))] 2 rfl dX7_fixtureOf_58 (fun l => m_X2_follow l G ca ad _ μ 0 zb_0 d hX.1 k (p + 1) (p.toNat + 1) hB (by omega) (by omega) (Or.inl ⟨by omega, by omega⟩) hg9) qM_X7_160 qI_X2_follow qS_X2_follow qi_X2 qC_X2_follow (by decide +kernel) (by decide) (by decide) (cl_desk zb_0) (cd_desk (ca := ca) (ad := ad) zb_0) rfl (Nat.le_of_ble_eq_true rfl) (zk_int (fun μ6 hμ6 => ?_)) rfl
          obtain ⟨hμ6f, hμ60, hμ61, hμ66, hμ6m⟩ := id hμ6
          have hd7 : vw μ6 0 = d := by rw [vw_fr5 hμ6f]; exact hX.1
          have hv9 := hμ6m p.toNat rfl
          rw [hpn] at hv9
          obtain ⟨hv2, hv3, hv4, hv5, hv7⟩ := hv9
          have hv1 : μ6 (0 + 5) 1 = sFree d k (d (11 + k) p) (sAt d k p).1 (sAt d k p).2.1 := by rw [hμ61]; show sFree d k (d (11 + k) ((p.toNat : Nat) : Int)) _ _ = _; rw [hpn]; rfl
          have hv29 : μ6 (0 + 5) 2 = sArr d k (d (11 + k) p) (sAt d k p).1 (sAt d k p).2.1 := hv2
          have hv39 : μ6 (0 + 5) 3 = sLoad d k (d (11 + k) p) (sAt d k p).1 (sAt d k p).2.1 := hv3
          have hv59 : μ6 (0 + 5) 5 = sEarn d k (d (11 + k) p) (sAt d k p).1 (sAt d k p).2.1 := hv5
          have hv79 : μ6 (0 + 5) 7 = sMarg d k (d (11 + k) p) (sAt d k p).1 (sAt d k p).2.1 := hv7
          refine z_astore hC dX7_fixtureOf_61 (by decide) rfl ?_
          refine z_iload_n hC dX7_fixtureOf_63 rfl ?_
          rcases (show w = 0 ∨ w = 1 ∨ w = 2 ∨ w = 3 ∨ w = 4 ∨ (w < 0 ∨ 4 < w) by omega) with w_8 | w_8 | w_8 | w_8 | w_8 | w_8
          · refine z_tableIn hC 100 dX7_fixtureOf_64 (by omega) (by omega) (by omega) (by rw [w_8]; rfl) (by decide) ?_
            refine z_aload hC dX7_fixtureOf_100 rfl ?_
            refine z_get hC iA_X6 rfl 7 (by decide) qF_X7_164 rfl dX7_fixtureOf_102 (cl_ship zb_0 (by omega)) (cd_ship zb_0 (by omega)) rfl ?_
            refine z_iload_n hC dX7_fixtureOf_105 rfl ?_
            refine z_iald hC dX7_fixtureOf_106 (cl_fx zb_0 (by omega)) (cd_fx zb_0 (by omega)) (by omega) (by omega) (by decide) ?_
            refine z_top (b := d (11 + k) p) ((vw_fx (by omega) (by omega)).symm.trans (congrFun (congrFun hd7 _) _)) ?_
            exact z_iret hC dX7_fixtureOf_107 ⟨by unfold qFixt; rw [if_neg (by omega), if_neg (by omega), if_pos (by omega)], zSt_5 hX hμ6f⟩
          · refine z_tableIn hC 108 dX7_fixtureOf_64 (by omega) (by omega) (by omega) (by rw [w_8]; rfl) (by decide) ?_
            refine z_aload hC dX7_fixtureOf_108 rfl ?_
            refine z_get hC iA_X1 rfl 2 (by decide) qF_X7_168 rfl dX7_fixtureOf_110 (cl_course zb_0) (cd_course (ca := ca) (ad := ad) zb_0) rfl ?_
            refine z_top (b := sArr d k (d (11 + k) p) (sAt d k p).1 (sAt d k p).2.1) (by rw [hv29]) ?_
            exact z_iret hC dX7_fixtureOf_113 ⟨by unfold qFixt; rw [if_neg (by omega), if_neg (by omega), if_neg (by omega), if_pos (by omega)], zSt_5 hX hμ6f⟩
          · refine z_tableIn hC 114 dX7_fixtureOf_64 (by omega) (by omega) (by omega) (by rw [w_8]; rfl) (by decide) ?_
            refine z_aload hC dX7_fixtureOf_114 rfl ?_
            refine z_get hC iA_X1 rfl 3 (by decide) qF_X7_171 rfl dX7_fixtureOf_116 (cl_course zb_0) (cd_course (ca := ca) (ad := ad) zb_0) rfl ?_
            refine z_top (b := sLoad d k (d (11 + k) p) (sAt d k p).1 (sAt d k p).2.1) (by rw [hv39]) ?_
            exact z_iret hC dX7_fixtureOf_119 ⟨by unfold qFixt; rw [if_neg (by omega), if_neg (by omega), if_neg (by omega), if_neg (by omega), if_pos (by omega)], zSt_5 hX hμ6f⟩
          · refine z_tableIn hC 120 dX7_fixtureOf_64 (by omega) (by omega) (by omega) (by rw [w_8]; rfl) (by decide) ?_
            refine z_aload hC dX7_fixtureOf_120 rfl ?_
            refine z_get hC iA_X1 rfl 1 (by decide) qF_X7_103 rfl dX7_fixtureOf_122 (cl_course zb_0) (cd_course (ca := ca) (ad := ad) zb_0) rfl ?_
            refine z_top (b := sFree d k (d (11 + k) p) (sAt d k p).1 (sAt d k p).2.1) (by rw [hv1]) ?_
            exact z_iret hC dX7_fixtureOf_125 ⟨by unfold qFixt; rw [if_neg (by omega), if_neg (by omega), if_neg (by omega), if_neg (by omega), if_neg (by omega), if_pos (by omega)], zSt_5 hX hμ6f⟩
          · refine z_tableIn hC 126 dX7_fixtureOf_64 (by omega) (by omega) (by omega) (by rw [w_8]; rfl) (by decide) ?_
            refine z_aload hC dX7_fixtureOf_126 rfl ?_
            refine z_get hC iA_X1 rfl 5 (by decide) qF_X7_174 rfl dX7_fixtureOf_128 (cl_course zb_0) (cd_course (ca := ca) (ad := ad) zb_0) rfl ?_
            refine z_top (b := sEarn d k (d (11 + k) p) (sAt d k p).1 (sAt d k p).2.1) (by rw [hv59]) ?_
            refine z_ldc hC (1000000) qc_X7_118 rfl dX7_fixtureOf_131 ?_
            refine z_iadd hC dX7_fixtureOf_133 ?_
            exact z_iret hC dX7_fixtureOf_134 ⟨by unfold qFixt; rw [if_neg (by omega), if_neg (by omega), if_neg (by omega), if_neg (by omega), if_neg (by omega), if_neg (by omega), if_pos (by omega)], zSt_5 hX hμ6f⟩
          · refine z_tableOut hC 135 dX7_fixtureOf_64 (by omega) (by omega) (by decide) ?_
            refine z_aload hC dX7_fixtureOf_135 rfl ?_
            refine z_get hC iA_X1 rfl 7 (by decide) qF_X7_177 rfl dX7_fixtureOf_137 (cl_course zb_0) (cd_course (ca := ca) (ad := ad) zb_0) rfl ?_
            refine z_top (b := sMarg d k (d (11 + k) p) (sAt d k p).1 (sAt d k p).2.1) (by rw [hv79]) ?_
            exact z_iret hC dX7_fixtureOf_140 ⟨by unfold qFixt; rw [if_neg (by omega), if_neg (by omega), if_neg (by omega), if_neg (by omega), if_neg (by omega), if_neg (by omega), if_neg (by omega)], zSt_5 hX hμ6f⟩
        · refine z_ldc hC (-1000004) qc_X7_155 rfl dX7_fixtureOf_47 ?_
          exact z_iret hC dX7_fixtureOf_49 ⟨by unfold qFixt; rw [if_neg (by omega), if_pos (by omega)], hX⟩
      · refine z_ldc hC (-1000001) qc_X7_77 rfl dX7_fixtureOf_24 ?_
        exact z_iret hC dX7_fixtureOf_26 ⟨by unfold qFixt; rw [if_pos (by omega)], hX⟩

set_option maxHeartbeats 4000000 in
set_option maxRecDepth 100000 in
/-- distance -/
theorem m_X7_distance (l : Launch) (G : va_G) (ca : Nat → ClassId) (ad : Int → Nat) (A : Nat → Prop) (μ : zM) (d : zM) (n : Int) (h : Int → zM) (L : Int) (t : Int → Int) (hX : zSt μ d n h L t) (hI : zInv d) (p q : Int) (hp : -2147483648 ≤ p ∧ p ≤ 2147483647) (hq : -2147483648 ≤ q ∧ q ≤ 2147483647) : zMet l (cω G ca ad) A yX7_distance cX7_distance 3 (some .int) 2 42 [.ref (ad 156), .int (iZ p), .int (iZ q)] μ (zpI (.int (iZ (qDist d p q))) (fun μ' => zSt μ' d n h L t)) := by
  refine zMet_of (by decide) (Nat.le_of_ble_eq_true rfl) (fun Γ hC => ?_)
  show Z Γ _ μ 0 [(0, .ref (ad 156)), (1, .int (iZ p)), (2, .int (iZ q))] []
  obtain ⟨hB, _⟩ := id hI
  obtain ⟨hN, hP, hB3, hB4⟩ := id hB
  obtain ⟨hN1, hN2⟩ := id hN
  have hG := zInv_G hI
  refine z_iload_n hC dX7_distance_0 rfl ?_
  refine z_callS hC [.int (iZ p)] 1 rfl dX7_distance_1 (fun l => m_X7_isPort l _ _ _ p (by omega)) qM_X7_180 qT_X7_isPort qi_X7 qC_X7_isPort (by decide +kernel) (by decide) (by decide) (Nat.le_of_ble_eq_true rfl) (zk_pure ?_) rfl
  refine z_ifb_eq hC 14 dX7_distance_4 (by decide) (fun c_1 => ?_) (fun c_1 => ?_)
  · refine z_ldc hC (-1000001) qc_X7_77 rfl dX7_distance_14 ?_
    exact z_iret hC dX7_distance_16 ⟨by unfold qDist; rw [if_pos (by omega)], hX⟩
  · refine z_iload_n hC dX7_distance_7 rfl ?_
    refine z_callS hC [.int (iZ q)] 1 rfl dX7_distance_8 (fun l => m_X7_isPort l _ _ _ q (by omega)) qM_X7_180 qT_X7_isPort qi_X7 qC_X7_isPort (by decide +kernel) (by decide) (by decide) (Nat.le_of_ble_eq_true rfl) (zk_pure ?_) rfl
    refine z_ifb_ne hC 17 dX7_distance_11 (by decide) (fun c_2 => ?_) (fun c_2 => ?_)
    · refine z_aload_n hC dX7_distance_17 rfl ?_
      refine z_get hC iA_X7 rfl 0 (by decide) qF_X7_10 rfl dX7_distance_18 cl_main (cd_main (ca := ca) (ad := ad)) rfl ?_
      refine z_iload_n hC dX7_distance_21 rfl ?_
      refine z_iload_n hC dX7_distance_22 rfl ?_
      refine z_callV hC [.int (iZ p), .int (iZ q)] 2 rfl dX7_distance_23 (fun l => m_X2_between l G ca ad _ μ 0 zb_0 d hX.1 p q hP (by omega) (by omega)) qM_X7_183 qI_X2_between qS_X2_between qi_X2 qC_X2_between (by decide +kernel) (by decide) (by decide) (cl_desk zb_0) (cd_desk (ca := ca) (ad := ad) zb_0) rfl (Nat.le_of_ble_eq_true rfl) (zk_pure ?_) rfl
      exact z_iret hC dX7_distance_26 ⟨by unfold qDist; rw [if_neg (by omega)], hX⟩
    · refine z_ldc hC (-1000001) qc_X7_77 rfl dX7_distance_14 ?_
      exact z_iret hC dX7_distance_16 ⟨by unfold qDist; rw [if_pos (by omega)], hX⟩

set_option maxHeartbeats 4000000 in
set_option maxRecDepth 100000 in
/-- slack -/
theorem m_X7_slack (l : Launch) (G : va_G) (ca : Nat → ClassId) (ad : Int → Nat) (A : Nat → Prop) (μ : zM) (d : zM) (n : Int) (h : Int → zM) (L : Int) (t : Int → Int) (hX : zSt μ d n h L t) (hI : zInv d) (k : Int) (hk : -2147483648 ≤ k ∧ k ≤ 2147483647) : zMet l (cω G ca ad) A yX7_slack cX7_slack 2 (some .int) 3 92 [.ref (ad 156), .int (iZ k)] μ (zpI (.int (iZ (qSlack d k))) (fun μ' => zSt μ' d n h L t)) := by
  refine zMet_of (by decide) (Nat.le_of_ble_eq_true rfl) (fun Γ hC => ?_)
  show Z Γ _ μ 0 [(0, .ref (ad 156)), (1, .int (iZ k))] []
  obtain ⟨hB, _⟩ := id hI
  obtain ⟨hN, hP, hB3, hB4⟩ := id hB
  obtain ⟨hN1, hN2⟩ := id hN
  have hG := zInv_G hI
  refine z_aload_n hC dX7_slack_0 rfl ?_
  refine z_get hC iA_X7 rfl 0 (by decide) qF_X7_10 rfl dX7_slack_1 cl_main (cd_main (ca := ca) (ad := ad)) rfl ?_
  refine z_iload_n hC dX7_slack_4 rfl ?_
  have hN1 : μ 0 4 = d 0 4 := by rw [← hX.1, vw_S]
  refine z_callV hC [.int (iZ k)] 1 rfl dX7_slack_5 (fun l => m_X2_isShip l G ca ad _ μ 0 zb_0 k (by omega) (by omega)) qM_X7_73 qI_X2_isShip qS_X2_isShip qi_X2 qC_X2_isShip (by decide +kernel) (by decide) (by decide) (cl_desk zb_0) (cd_desk (ca := ca) (ad := ad) zb_0) rfl (Nat.le_of_ble_eq_true rfl) (zk_pure ?_) rfl
  rw [hN1]
  refine z_ifb_eq hC 22 dX7_slack_8 (by decide) (fun c_2 => ?_) (fun c_2 => ?_)
  · refine z_ldc hC (-1000001) qc_X7_77 rfl dX7_slack_22 ?_
    exact z_iret hC dX7_slack_24 ⟨by unfold qSlack; rw [if_pos (by omega)], hX⟩
  · refine z_aload_n hC dX7_slack_11 rfl ?_
    refine z_get hC iA_X7 rfl 0 (by decide) qF_X7_10 rfl dX7_slack_12 cl_main (cd_main (ca := ca) (ad := ad)) rfl ?_
    refine z_iload_n hC dX7_slack_15 rfl ?_
    refine z_callV hC [.int (iZ k)] 1 rfl dX7_slack_16 (fun l => m_X2_slackOf l G ca ad _ μ 0 zb_0 d hX.1 k hB (by omega) (hG _ (by omega))) qM_X7_237 qI_X2_slackOf qS_X2_slackOf qi_X2 qC_X2_slackOf (by decide +kernel) (by decide) (by decide) (cl_desk zb_0) (cd_desk (ca := ca) (ad := ad) zb_0) rfl (Nat.le_of_ble_eq_true rfl) (zk_int (fun μ3 hμ3 => ?_)) rfl
    have hμ3f := hμ3
    refine z_goto hC 24 dX7_slack_19 (by decide) ?_
    exact z_iret hC dX7_slack_24 ⟨by unfold qSlack; rw [if_neg (by omega)], zSt_5 hX hμ3f⟩

set_option maxHeartbeats 4000000 in
set_option maxRecDepth 100000 in
/-- count -/
theorem m_X7_count (l : Launch) (G : va_G) (ca : Nat → ClassId) (ad : Int → Nat) (A : Nat → Prop) (μ : zM) (d : zM) (n : Int) (h : Int → zM) (L : Int) (t : Int → Int) (hX : zSt μ d n h L t) (hI : zInv d) (w : Int) (hw : -2147483648 ≤ w ∧ w ≤ 2147483647) : zMet l (cω G ca ad) A yX7_count cX7_count 2 (some .int) 1 23 [.ref (ad 156), .int (iZ w)] μ (zpI (.int (iZ (qCount d n L w))) (fun μ' => zSt μ' d n h L t)) := by
  refine zMet_of (by decide) (Nat.le_of_ble_eq_true rfl) (fun Γ hC => ?_)
  show Z Γ _ μ 0 [(0, .ref (ad 156)), (1, .int (iZ w))] []
  obtain ⟨hB, _⟩ := id hI
  obtain ⟨hN, hP, hB3, hB4⟩ := id hB
  obtain ⟨hN1, hN2⟩ := id hN
  have hG := zInv_G hI
  refine z_iload_n hC dX7_count_0 rfl ?_
  rcases (show w = 0 ∨ w = 1 ∨ w = 2 ∨ w = 3 ∨ w = 4 ∨ w = 5 ∨ w = 6 ∨ w = 7 ∨ w = 8 ∨ (w < 0 ∨ 8 < w) by omega) with w_1 | w_1 | w_1 | w_1 | w_1 | w_1 | w_1 | w_1 | w_1 | w_1
  · refine z_tableIn hC 52 dX7_count_1 (by omega) (by omega) (by omega) (by rw [w_1]; rfl) (by decide) ?_
    refine z_aload_n hC dX7_count_52 rfl ?_
    refine z_get hC iA_X7 rfl 0 (by decide) qF_X7_10 rfl dX7_count_53 cl_main (cd_main (ca := ca) (ad := ad)) rfl ?_
    refine z_get hC iA_X2 rfl 4 (by decide) qF_X7_211 rfl dX7_count_56 (cl_desk zb_0) (cd_desk (ca := ca) (ad := ad) zb_0) rfl ?_
    refine z_top (b := d 0 4) ((vw_S).symm.trans (congrFun (congrFun hX.1 _) _)) ?_
    exact z_iret hC dX7_count_59 ⟨by unfold qCount; rw [if_pos (by omega)], hX⟩
  · refine z_tableIn hC 60 dX7_count_1 (by omega) (by omega) (by omega) (by rw [w_1]; rfl) (by decide) ?_
    refine z_aload_n hC dX7_count_60 rfl ?_
    refine z_get hC iA_X7 rfl 0 (by decide) qF_X7_10 rfl dX7_count_61 cl_main (cd_main (ca := ca) (ad := ad)) rfl ?_
    refine z_get hC iA_X2 rfl 5 (by decide) qF_X7_200 rfl dX7_count_64 (cl_desk zb_0) (cd_desk (ca := ca) (ad := ad) zb_0) rfl ?_
    refine z_top (b := d 0 5) ((vw_Cn).symm.trans (congrFun (congrFun hX.1 _) _)) ?_
    exact z_iret hC dX7_count_67 ⟨by unfold qCount; rw [if_neg (by omega), if_pos (by omega)], hX⟩
  · refine z_tableIn hC 68 dX7_count_1 (by omega) (by omega) (by omega) (by rw [w_1]; rfl) (by decide) ?_
    refine z_aload_n hC dX7_count_68 rfl ?_
    refine z_get hC iA_X7 rfl 0 (by decide) qF_X7_10 rfl dX7_count_69 cl_main (cd_main (ca := ca) (ad := ad)) rfl ?_
    refine z_iconst hC dX7_count_72 ?_
    refine z_callV hC [.int (iZ 0)] 1 rfl dX7_count_73 (fun l => m_X2_cargoesThatAre l G ca ad _ μ 0 zb_0 d hX.1 0 (by omega) (d 0 5).toNat (by omega) hB) qM_X7_240 qI_X2_cargoesThatAre qS_X2_cargoesThatAre qi_X2 qC_X2_cargoesThatAre (by decide +kernel) (by decide) (by decide) (cl_desk zb_0) (cd_desk (ca := ca) (ad := ad) zb_0) rfl (Nat.le_of_ble_eq_true rfl) (zk_pure ?_) rfl
    exact z_iret hC dX7_count_76 ⟨by unfold qCount; rw [if_neg (by omega), if_neg (by omega), if_pos (by omega)], hX⟩
  · refine z_tableIn hC 77 dX7_count_1 (by omega) (by omega) (by omega) (by rw [w_1]; rfl) (by decide) ?_
    refine z_aload_n hC dX7_count_77 rfl ?_
    refine z_get hC iA_X7 rfl 0 (by decide) qF_X7_10 rfl dX7_count_78 cl_main (cd_main (ca := ca) (ad := ad)) rfl ?_
    refine z_iconst hC dX7_count_81 ?_
    refine z_callV hC [.int (iZ 1)] 1 rfl dX7_count_82 (fun l => m_X2_cargoesThatAre l G ca ad _ μ 0 zb_0 d hX.1 1 (by omega) (d 0 5).toNat (by omega) hB) qM_X7_240 qI_X2_cargoesThatAre qS_X2_cargoesThatAre qi_X2 qC_X2_cargoesThatAre (by decide +kernel) (by decide) (by decide) (cl_desk zb_0) (cd_desk (ca := ca) (ad := ad) zb_0) rfl (Nat.le_of_ble_eq_true rfl) (zk_pure ?_) rfl
    exact z_iret hC dX7_count_85 ⟨by unfold qCount; rw [if_neg (by omega), if_neg (by omega), if_neg (by omega), if_pos (by omega)], hX⟩
  · refine z_tableIn hC 86 dX7_count_1 (by omega) (by omega) (by omega) (by rw [w_1]; rfl) (by decide) ?_
    refine z_aload_n hC dX7_count_86 rfl ?_
    refine z_get hC iA_X7 rfl 0 (by decide) qF_X7_10 rfl dX7_count_87 cl_main (cd_main (ca := ca) (ad := ad)) rfl ?_
    refine z_callV hC [] 0 rfl dX7_count_90 (fun l => m_X2_accountsTogether l G ca ad _ μ 0 zb_0 d hX.1 (d 0 4).toNat (by omega) hB) qM_X7_243 qI_X2_accountsTogether qS_X2_accountsTogether qi_X2 qC_X2_accountsTogether (by decide +kernel) (by decide) (by decide) (cl_desk zb_0) (cd_desk (ca := ca) (ad := ad) zb_0) rfl (Nat.le_of_ble_eq_true rfl) (zk_pure ?_) rfl
    refine z_ldc hC (1000000) qc_X7_118 rfl dX7_count_93 ?_
    refine z_iadd hC dX7_count_95 ?_
    exact z_iret hC dX7_count_96 ⟨by unfold qCount; rw [if_neg (by omega), if_neg (by omega), if_neg (by omega), if_neg (by omega), if_pos (by omega)], hX⟩
  · refine z_tableIn hC 97 dX7_count_1 (by omega) (by omega) (by omega) (by rw [w_1]; rfl) (by decide) ?_
    refine z_aload_n hC dX7_count_97 rfl ?_
    refine z_get hC iA_X7 rfl 0 (by decide) qF_X7_10 rfl dX7_count_98 cl_main (cd_main (ca := ca) (ad := ad)) rfl ?_
    refine z_get hC iA_X2 rfl 6 (by decide) qF_X7_246 rfl dX7_count_101 (cl_desk zb_0) (cd_desk (ca := ca) (ad := ad) zb_0) rfl ?_
    refine z_top (b := d 0 6) ((vw_can).symm.trans (congrFun (congrFun hX.1 _) _)) ?_
    exact z_iret hC dX7_count_104 ⟨by unfold qCount; rw [if_neg (by omega), if_neg (by omega), if_neg (by omega), if_neg (by omega), if_neg (by omega), if_pos (by omega)], hX⟩
  · refine z_tableIn hC 105 dX7_count_1 (by omega) (by omega) (by omega) (by rw [w_1]; rfl) (by decide) ?_
    refine z_aload_n hC dX7_count_105 rfl ?_
    refine z_get hC iA_X7 rfl 0 (by decide) qF_X7_10 rfl dX7_count_106 cl_main (cd_main (ca := ca) (ad := ad)) rfl ?_
    refine z_get hC iA_X2 rfl 7 (by decide) qF_X7_249 rfl dX7_count_109 (cl_desk zb_0) (cd_desk (ca := ca) (ad := ad) zb_0) rfl ?_
    refine z_top (b := d 0 7) ((vw_off).symm.trans (congrFun (congrFun hX.1 _) _)) ?_
    exact z_iret hC dX7_count_112 ⟨by unfold qCount; rw [if_neg (by omega), if_neg (by omega), if_neg (by omega), if_neg (by omega), if_neg (by omega), if_neg (by omega), if_pos (by omega)], hX⟩
  · refine z_tableIn hC 113 dX7_count_1 (by omega) (by omega) (by omega) (by rw [w_1]; rfl) (by decide) ?_
    refine z_aload_n hC dX7_count_113 rfl ?_
    refine z_get hC iA_X7 rfl 2 (by decide) qF_X7_22 rfl dX7_count_114 cl_main (cd_main (ca := ca) (ad := ad)) rfl ?_
    refine z_get hC iA_X4 rfl 1 (by decide) qF_X7_252 rfl dX7_count_117 cl_hist (cd_hist (ca := ca) (ad := ad)) rfl ?_
    refine z_top (b := n) (by rw [hX.2.1.2.1]) ?_
    exact z_iret hC dX7_count_120 ⟨by unfold qCount; rw [if_neg (by omega), if_neg (by omega), if_neg (by omega), if_neg (by omega), if_neg (by omega), if_neg (by omega), if_neg (by omega), if_pos (by omega)], hX⟩
  · refine z_tableIn hC 121 dX7_count_1 (by omega) (by omega) (by omega) (by rw [w_1]; rfl) (by decide) ?_
    refine z_aload_n hC dX7_count_121 rfl ?_
    refine z_get hC iA_X7 rfl 3 (by decide) qF_X7_29 rfl dX7_count_122 cl_main (cd_main (ca := ca) (ad := ad)) rfl ?_
    refine z_get hC iA_X5 rfl 1 (by decide) qF_X7_253 rfl dX7_count_125 cl_script (cd_script (ca := ca) (ad := ad)) rfl ?_
    refine z_top (b := L) (by rw [hX.2.2.1]) ?_
    exact z_iret hC dX7_count_128 ⟨by unfold qCount; rw [if_neg (by omega), if_neg (by omega), if_neg (by omega), if_neg (by omega), if_neg (by omega), if_neg (by omega), if_neg (by omega), if_neg (by omega), if_pos (by omega)], hX⟩
  · refine z_tableOut hC 129 dX7_count_1 (by omega) (by omega) (by decide) ?_
    refine z_ldc hC (-1000001) qc_X7_77 rfl dX7_count_129 ?_
    exact z_iret hC dX7_count_131 ⟨by unfold qCount; rw [if_neg (by omega), if_neg (by omega), if_neg (by omega), if_neg (by omega), if_neg (by omega), if_neg (by omega), if_neg (by omega), if_neg (by omega), if_neg (by omega)], hX⟩

set_option maxHeartbeats 4000000 in
set_option maxRecDepth 100000 in
/-- bestCargo -/
theorem m_X7_bestCargo (l : Launch) (G : va_G) (ca : Nat → ClassId) (ad : Int → Nat) (A : Nat → Prop) (μ : zM) (d : zM) (n : Int) (h : Int → zM) (L : Int) (t : Int → Int) (hX : zSt μ d n h L t) (hI : zInv d) (k : Int) (hk : -2147483648 ≤ k ∧ k ≤ 2147483647) : zMet l (cω G ca ad) A yX7_bestCargo cX7_bestCargo 2 (some .int) 5 139 [.ref (ad 156), .int (iZ k)] μ (zpI (.int (iZ (qBestC d k (0, μ 0 9, μ 0 10, μ 0 11)))) (fun μ' => zSt μ' d n h L t)) := by
  refine zMet_of (by decide) (Nat.le_of_ble_eq_true rfl) (fun Γ hC => ?_)
  show Z Γ _ μ 0 [(0, .ref (ad 156)), (1, .int (iZ k))] []
  obtain ⟨hB, _⟩ := id hI
  obtain ⟨hN, hP, hB3, hB4⟩ := id hB
  obtain ⟨hN1, hN2⟩ := id hN
  have hG := zInv_G hI
  refine z_aload_n hC dX7_bestCargo_0 rfl ?_
  refine z_get hC iA_X7 rfl 0 (by decide) qF_X7_10 rfl dX7_bestCargo_1 cl_main (cd_main (ca := ca) (ad := ad)) rfl ?_
  refine z_iload_n hC dX7_bestCargo_4 rfl ?_
  have hN1 : μ 0 4 = d 0 4 := by rw [← hX.1, vw_S]
  refine z_callV hC [.int (iZ k)] 1 rfl dX7_bestCargo_5 (fun l => m_X2_isShip l G ca ad _ μ 0 zb_0 k (by omega) (by omega)) qM_X7_73 qI_X2_isShip qS_X2_isShip qi_X2 qC_X2_isShip (by decide +kernel) (by decide) (by decide) (cl_desk zb_0) (cd_desk (ca := ca) (ad := ad) zb_0) rfl (Nat.le_of_ble_eq_true rfl) (zk_pure ?_) rfl
  rw [hN1]
  refine z_ifb_ne hC 14 dX7_bestCargo_8 (by decide) (fun c_2 => ?_) (fun c_2 => ?_)
  · refine z_aload_n hC dX7_bestCargo_14 rfl ?_
    refine z_get hC iA_X7 rfl 0 (by decide) qF_X7_10 rfl dX7_bestCargo_15 cl_main (cd_main (ca := ca) (ad := ad)) rfl ?_
    refine z_iload_n hC dX7_bestCargo_18 rfl ?_
    refine z_iload_n hC dX7_bestCargo_19 rfl ?_
    refine z_iconst hC dX7_bestCargo_20 ?_
    refine z_iadd hC dX7_bestCargo_21 ?_
    refine z_iconst hC dX7_bestCargo_22 ?_
    refine z_aload_n hC dX7_bestCargo_23 rfl ?_
    refine z_get hC iA_X7 rfl 0 (by decide) qF_X7_10 rfl dX7_bestCargo_24 cl_main (cd_main (ca := ca) (ad := ad)) rfl ?_
    refine z_get hC iA_X2 rfl 5 (by decide) qF_X7_200 rfl dX7_bestCargo_27 (cl_desk zb_0) (cd_desk (ca := ca) (ad := ad) zb_0) rfl ?_
    refine z_top (b := d 0 5) ((vw_Cn).symm.trans (congrFun (congrFun hX.1 _) _)) ?_
    refine z_callV hC [.int (iZ k), .int (iZ (k + 1)), .int (iZ 0), .int (iZ (d 0 5))] 4 rfl dX7_bestCargo_30 (fun l => m_X2_choose l G ca ad _ μ 0 zb_0 d hX.1 k (k + 1) 0 (d 0 5) 1 (d 0 5).toNat hB hG (by omega) (by omega) (by omega) (by omega) (by omega) (by omega)) qM_X7_203 qI_X2_choose qS_X2_choose qi_X2 qC_X2_choose (by decide +kernel) (by decide) (by decide) (cl_desk zb_0) (cd_desk (ca := ca) (ad := ad) zb_0) rfl (Nat.le_of_ble_eq_true rfl) (zk_int (fun μ3 hμ3 => ?_)) rfl
    obtain ⟨hμ3f, hμ39, hμ310, hμ311⟩ := id hμ3
    have hd4 : vw μ3 0 = d := by rw [vw_f2 hμ3f]; exact hX.1
    refine z_ifb_eq hC 46 dX7_bestCargo_33 (by decide) (fun c_5 => ?_) (fun c_5 => ?_)
    · refine z_ldc hC (-1000004) qc_X7_155 rfl dX7_bestCargo_46 ?_
      exact z_iret hC dX7_bestCargo_48 ⟨by unfold qBestC; rw [if_neg (by omega), if_neg (by omega)], zSt_f2 hX hμ3f⟩
    · refine z_aload_n hC dX7_bestCargo_36 rfl ?_
      refine z_get hC iA_X7 rfl 0 (by decide) qF_X7_10 rfl dX7_bestCargo_37 cl_main (cd_main (ca := ca) (ad := ad)) rfl ?_
      refine z_get hC iA_X2 rfl 10 (by decide) qF_X7_207 rfl dX7_bestCargo_40 (cl_desk zb_0) (cd_desk (ca := ca) (ad := ad) zb_0) rfl ?_
      refine z_top (b := (sAll d k 0 (d 0 5).toNat 1 (0, μ 0 9, μ 0 10, μ 0 11)).2.2.1) (by rw [hμ310]) ?_
      refine z_goto hC 48 dX7_bestCargo_43 (by decide) ?_
      exact z_iret hC dX7_bestCargo_48 ⟨by unfold qBestC; rw [if_neg (by omega), if_pos (by omega)], zSt_f2 hX hμ3f⟩
  · refine z_ldc hC (-1000001) qc_X7_77 rfl dX7_bestCargo_11 ?_
    exact z_iret hC dX7_bestCargo_13 ⟨by unfold qBestC; rw [if_pos (by omega)], hX⟩
end
section
/-! PURE FACTS -/
/-- a ship's fixtures are cargoes -/
def fOk (d : zM) (k : Int) (N : Nat) : Prop := ∀ n : Nat, n < N → 0 ≤ d (11 + k) (n : Int) ∧ d (11 + k) (n : Int) < d 0 5
/-- if no fixture is too late all are gone through -/
theorem sTime_all {d : zM} {k : Int} : ∀ (r n : Nat), (∀ m : Nat, n ≤ m ∧ m < n + r → 0 ≤ sMarg d k (d (11 + k) (m : Int)) (sPos d k m).1 (sPos d k m).2.1) → sTime d k r n = n + r := by
  intro r
  induction r with
  | zero => intro n _; rfl
  | succ r ih =>
    intro n h
    have := h n (by omega)
    rw [sTime_n (by omega), ih (n + 1) (fun m hm => h m (by omega))]
    omega
theorem fOk_of {d : zM} (H : zInv d) {k : Int} (hk : 0 ≤ k ∧ k < d 0 4) : fOk d k (sNum d k) := (zInv_G H k hk).1
theorem late_of {d : zM} (H : zInv d) {k : Int} (hk : 0 ≤ k ∧ k < d 0 4) : ∀ n : Nat, n < sNum d k → 0 ≤ sMarg d k (d (11 + k) (n : Int)) (sPos d k n).1 (sPos d k n).2.1 := H.2.2.2.2.2.2 k hk
/-- the days of a voyage, and what it earns -/
theorem sVoy_b {d : zM} {k c : Int} (H : zInv d) (hk : 0 ≤ k ∧ k < d 0 4) (hc : 0 ≤ c ∧ c < d 0 5) : (-300000 ≤ sEarn d k c (sEnd d k).1 (sEnd d k).2.1 ∧ sEarn d k c (sEnd d k).1 (sEnd d k).2.1 ≤ 300000) ∧ (4 ≤ sFree d k c (sEnd d k).1 (sEnd d k).2.1 - (sEnd d k).2.1 ∧ sFree d k c (sEnd d k).1 (sEnd d k).2.1 - (sEnd d k).2.1 ≤ 2300) := by
  have h1 := sEa_b H.1 hk hc (zInv_G H k hk)
  unfold sEa at h1
  have hg := (zInv_G H k hk).2 _ (Nat.le_refl _)
  have hs := H.1.2.2.1 k hk
  have hcc := H.1.2.2.2 c hc
  have e1 := sArr_b (t := (sEnd d k).2.1) H.1.2.1 hs.2.1 hcc hg.1
  have e2 := sLoad_b (t := (sEnd d k).2.1) H.1.2.1 hs.2.1 hcc hg.1
  have e3 := sFree_b (t := (sEnd d k).2.1) H.1.2.1 hs.2.1 hcc hg.1
  have h2 : 0 ≤ (sEnd d k).2.1 ∧ (sEnd d k).2.1 ≤ 2000 := hg.2
  change _ ≤ sArr d k c (sEnd d k).1 _ ∧ sArr d k c (sEnd d k).1 _ ≤ _ at e1
  change sArr d k c (sEnd d k).1 _ ≤ sLoad d k c (sEnd d k).1 _ ∧ (sLoad d k c (sEnd d k).1 _ ≤ 999 ∨ sLoad d k c (sEnd d k).1 _ = sArr d k c (sEnd d k).1 _) at e2
  change sLoad d k c (sEnd d k).1 _ + 4 ≤ sFree d k c (sEnd d k).1 _ ∧ sFree d k c (sEnd d k).1 _ ≤ sLoad d k c (sEnd d k).1 _ + 87 at e3
  constructor
  · omega
  · omega
end
section
/-! SLACK: by how many days a ship may come later -/
def zmx (x : Int) : Int := if x < 0 then 0 else x
theorem zup_zup {d : zM} {o i a b : Int} : zup (zup d o i a) o i b = zup d o i b := by
  funext p q
  by_cases e : p = o ∧ q = i
  · rw [e.1, e.2, zup_s, zup_s]
  · rw [zup_n (by omega), zup_n (by omega), zup_n (by omega)]
theorem sLat_e {d : zM} {k j o i : Int} (h : o ≠ 6 + k ∨ i ≠ 4) : sLater d k j o i = d o i := zup_n h
theorem sLat_n {d : zM} {k j : Int} : sNum (sLater d k j) k = sNum d k := by unfold sNum; rw [sLat_e (by omega)]
theorem sSail_lat {d : zM} {k j p q : Int} (hk : 0 ≤ k) : sSail (sLater d k j) k p q = sSail d k p q := by
  unfold sSail sFar
  rw [sLat_e (by omega), sLat_e (by omega), sLat_e (by omega), sLat_e (by omega), sLat_e (by omega)]
theorem sStp_lat {d : zM} {k j p t e c W : Int} (hk : 0 ≤ k ∧ k < 5) (hc : 0 ≤ c) (he : e = t + zmx (j - W)) :
    sArr (sLater d k j) k c p e = sArr d k c p t + zmx (j - W) ∧ sLoad (sLater d k j) k c p e = sLoad d k c p t + zmx (j - (W + (sLoad d k c p t - sArr d k c p t))) ∧ sFree (sLater d k j) k c p e = sFree d k c p t + zmx (j - (W + (sLoad d k c p t - sArr d k c p t))) := by
  have a1 : sArr (sLater d k j) k c p e = sArr d k c p t + zmx (j - W) := by
    unfold sArr
    rw [sSail_lat hk.1, sLat_e (by omega), he]
    omega
  have a2 : sLoad (sLater d k j) k c p e = sLoad d k c p t + zmx (j - (W + (sLoad d k c p t - sArr d k c p t))) := by
    unfold sLoad
    rw [a1, sLat_e (by omega)]
    unfold zmx
    split <;> split <;> split <;> (try split) <;> omega
  refine ⟨a1, a2, ?_⟩
  unfold sFree
  rw [a2, sSail_lat hk.1, sLat_e (by omega), sLat_e (by omega)]
  omega
theorem sPos_lat {d : zM} {k j : Int} (hk : 0 ≤ k ∧ k < 5) (hj : 0 ≤ j) : ∀ n : Nat, (∀ m : Nat, m < n → 0 ≤ d (11 + k) (m : Int)) → (sPos (sLater d k j) k n).1 = (sPos d k n).1 ∧ (sPos (sLater d k j) k n).2.1 = (sPos d k n).2.1 + zmx (j - sW d k n) := by
  intro n
  induction n with
  | zero =>
    intro _
    refine ⟨sLat_e (by omega), ?_⟩
    show sLater d k j (6 + k) 4 = d (6 + k) 4 + zmx (j - 0)
    have : sLater d k j (6 + k) 4 = d (6 + k) 4 + j := zup_s
    unfold zmx
    rw [if_neg (by omega)]
    omega
  | succ n ih =>
    intro h
    obtain ⟨i1, i2⟩ := ih (fun m hm => h m (by omega))
    have hc := h n (by omega)
    have e11 : sLater d k j (11 + k) (n : Int) = d (11 + k) (n : Int) := sLat_e (by omega)
    have st := sStp_lat (d := d) (j := j) (p := (sPos d k n).1) hk hc i2
    constructor
    · show sLater d k j (16 + sLater d k j (11 + k) (n : Int)) 2 = d (16 + d (11 + k) (n : Int)) 2
      rw [e11, sLat_e (by omega)]
    · show sFree (sLater d k j) k (sLater d k j (11 + k) (n : Int)) (sPos (sLater d k j) k n).1 (sPos (sLater d k j) k n).2.1 = sFree d k (d (11 + k) (n : Int)) (sPos d k n).1 (sPos d k n).2.1 + zmx (j - sW d k (n + 1))
      rw [e11, i1]
      exact st.2.2
theorem sMarg_lat {d : zM} {k j : Int} (hk : 0 ≤ k ∧ k < 5) (hj : 0 ≤ j) (n : Nat) (h : ∀ m : Nat, m ≤ n → 0 ≤ d (11 + k) (m : Int)) : sMarg (sLater d k j) k (sLater d k j (11 + k) (n : Int)) (sPos (sLater d k j) k n).1 (sPos (sLater d k j) k n).2.1 = sMarg d k (d (11 + k) (n : Int)) (sPos d k n).1 (sPos d k n).2.1 - zmx (j - sW d k n) := by
  obtain ⟨i1, i2⟩ := sPos_lat hk hj n (fun m hm => h m (by omega))
  have hc := h n (by omega)
  have e11 : sLater d k j (11 + k) (n : Int) = d (11 + k) (n : Int) := sLat_e (by omega)
  have st := sStp_lat (d := d) (j := j) (p := (sPos d k n).1) hk hc i2
  unfold sMarg
  rw [e11, i1, st.1, sLat_e (by omega)]
  omega
theorem sTime_iff {d : zM} {k : Int} : ∀ (r n : Nat), sTime d k r n = n + r ↔ ∀ m : Nat, n ≤ m ∧ m < n + r → 0 ≤ sMarg d k (d (11 + k) (m : Int)) (sPos d k m).1 (sPos d k m).2.1 := by
  intro r n
  constructor
  · induction r generalizing n with
    | zero => intro _ m hm; exact absurd hm (by omega)
    | succ r ih =>
      intro h m hm
      by_cases q : sMarg d k (d (11 + k) (n : Int)) (sPos d k n).1 (sPos d k n).2.1 < 0
      · rw [sTime_p q] at h; exact absurd h (by omega)
      · rw [sTime_n q] at h
        by_cases e : m = n
        · rw [e]; omega
        · exact ih (n + 1) (by omega) m (by omega)
  · exact sTime_all r n
theorem sL_iff {d : zM} {k j : Int} : ∀ n : Nat, j ≤ sL d k (n + 1) ↔ ∀ m : Nat, m ≤ n → j ≤ sMarg d k (d (11 + k) (m : Int)) (sPos d k m).1 (sPos d k m).2.1 + sW d k m := by
  intro n
  induction n with
  | zero =>
    rw [← sL_f (d := d) (k := k) (n := 0) rfl]
    exact ⟨fun h m hm => (by have e : m = 0 := (by omega); rw [e]; exact h), fun h => h 0 (Nat.le_refl _)⟩
  | succ n ih =>
    rw [← sL_s (d := d) (k := k) (n := n + 1) (by omega)]
    constructor
    · intro h m hm
      by_cases e : m = n + 1
      · rw [e]
        split at h <;> omega
      · refine ih.mp ?_ m (by omega)
        split at h <;> omega
    · intro h
      have a := ih.mpr (fun m hm => h m (by omega))
      have b := h (n + 1) (Nat.le_refl _)
      split <;> omega
theorem sSlk {d : zM} {k j : Int} (H : zInv d) (hk : 0 ≤ k ∧ k < d 0 4) (hN : 0 < sNum d k) (hj : 0 ≤ j) : sInT (sLater d k j) k = sNum d k ↔ j ≤ sL d k (sNum d k) := by
  have hk5 : 0 ≤ k ∧ k < 5 := by have := H.1.1.1; omega
  have hF := fOk_of H hk
  have hL := late_of H hk
  obtain ⟨N, hNe⟩ : ∃ N, sNum d k = N + 1 := ⟨sNum d k - 1, by omega⟩
  unfold sInT
  rw [sLat_n, hNe, sL_iff]
  have t := sTime_iff (d := sLater d k j) (k := k) (N + 1) 0
  rw [Nat.zero_add] at t
  rw [t]
  constructor
  · intro h m hm
    have h1 := h m (by omega)
    have h2 := hL m (by omega)
    rw [sMarg_lat hk5 hj m (fun x hx => (hF x (by omega)).1)] at h1
    unfold zmx at h1
    split at h1 <;> omega
  · intro h m hm
    have h1 := h m (by omega)
    have h2 := hL m (by omega)
    rw [sMarg_lat hk5 hj m (fun x hx => (hF x (by omega)).1)]
    unfold zmx
    split <;> omega
/-- the day that a ship may still begin on -/
theorem sSlk_b {d : zM} {k j : Int} (H : zInv d) (hk : 0 ≤ k ∧ k < d 0 4) (hN : 0 < sNum d k) (hj : j ≤ sL d k (sNum d k)) : d (6 + k) 4 + j ≤ 999 := by
  obtain ⟨N, hNe⟩ : ∃ N, sNum d k = N + 1 := ⟨sNum d k - 1, by omega⟩
  have hF := fOk_of H hk
  rw [hNe] at hj
  have h0 := (sL_iff N).mp hj 0 (by omega)
  obtain ⟨hN0, hP, hB3, hB4⟩ := id H.1
  obtain ⟨hs0, hs1, hs2, hs3, hs4, hs6⟩ := hB3 k hk
  have hc := hB4 _ (hF 0 (by omega))
  have hp : 0 ≤ (sPos d k 0).1 ∧ (sPos d k 0).1 ≤ 7 := hs3
  have ha := sArr_b (t := (sPos d k 0).2.1) hP hs1 hc hp
  have e : (sPos d k 0).2.1 = d (6 + k) 4 := rfl
  have ew : sW d k 0 = 0 := rfl
  have h4 := hc.2.2.2.2.1
  unfold sMarg at h0
  omega
theorem sL_0 {d : zM} {k : Int} (H : zInv d) (hk : 0 ≤ k ∧ k < d 0 4) (hN : 0 < sNum d k) : 0 ≤ sL d k (sNum d k) := by
  obtain ⟨N, hNe⟩ : ∃ N, sNum d k = N + 1 := ⟨sNum d k - 1, by omega⟩
  rw [hNe]
  refine (sL_iff N).mpr (fun m hm => ?_)
  have h1 := late_of H hk m (by omega)
  have h2 := (sWL_b H.1 hk (zInv_G H k hk) m (by omega)).1
  omega
end
section
/-! EACH CHANGE KEEPS THE INVARIANT, and what it answers is in its range -/
/-- what a ship's way through its first N fixtures depends on is the same -/
def zAlike (d d' : zM) (k : Int) (N : Nat) : Prop := (∀ i, d' 1 i = d 1 i) ∧ (∀ i, d' 2 i = d 2 i) ∧ (∀ i, 0 ≤ i ∧ i < 5 → d' (6 + k) i = d (6 + k) i) ∧ (∀ n : Nat, n < N → d' (11 + k) (n : Int) = d (11 + k) (n : Int)) ∧ ∀ n : Nat, n < N → ∀ i, 0 ≤ i ∧ i < 6 → d' (16 + d (11 + k) (n : Int)) i = d (16 + d (11 + k) (n : Int)) i
theorem sStp_cg {d d' : zM} {k c p t : Int} (h1 : ∀ i, d' 1 i = d 1 i) (h2 : ∀ i, d' 2 i = d 2 i) (hs : ∀ i, 0 ≤ i ∧ i < 5 → d' (6 + k) i = d (6 + k) i) (hc : ∀ i, 0 ≤ i ∧ i < 6 → d' (16 + c) i = d (16 + c) i) : sFree d' k c p t = sFree d k c p t ∧ sEarn d' k c p t = sEarn d k c p t ∧ sMarg d' k c p t = sMarg d k c p t := by
  have f : ∀ p q, sFar d' p q = sFar d p q := fun p q => by unfold sFar; rw [h1 p, h1 q, h2 p, h2 q]
  have g : ∀ p q, sSail d' k p q = sSail d k p q := fun p q => by unfold sSail; rw [f, hs 1 (by omega)]
  have a : sArr d' k c p t = sArr d k c p t := by unfold sArr; rw [g, hc 1 (by omega)]
  have l : sLoad d' k c p t = sLoad d k c p t := by unfold sLoad; rw [a, hc 3 (by omega)]
  have r : sFree d' k c p t = sFree d k c p t := by unfold sFree; rw [l, g, hc 1 (by omega), hc 2 (by omega)]
  refine ⟨r, ?_, ?_⟩
  · unfold sEarn; rw [r, hc 0 (by omega), hc 5 (by omega), hs 2 (by omega)]
  · unfold sMarg; rw [a, hc 4 (by omega)]
theorem sPos_al {d d' : zM} {k : Int} {N : Nat} (h : zAlike d d' k N) : ∀ n : Nat, n ≤ N → sPos d' k n = sPos d k n := by
  obtain ⟨h1, h2, hs, hx, hc⟩ := h
  intro n
  induction n with
  | zero =>
    intro _
    show (d' (6 + k) 3, d' (6 + k) 4, (0 : Int)) = (d (6 + k) 3, d (6 + k) 4, (0 : Int))
    rw [hs 3 (by omega), hs 4 (by omega)]
  | succ n ih =>
    intro hn
    have i1 := ih (by omega)
    have e := hx n (by omega)
    have q := sStp_cg (p := (sPos d k n).1) (t := (sPos d k n).2.1) h1 h2 hs (hc n (by omega))
    show (d' (16 + d' (11 + k) (n : Int)) 2, sFree d' k (d' (11 + k) (n : Int)) (sPos d' k n).1 (sPos d' k n).2.1, (sPos d' k n).2.2 + sEarn d' k (d' (11 + k) (n : Int)) (sPos d' k n).1 (sPos d' k n).2.1) = (d (16 + d (11 + k) (n : Int)) 2, sFree d k (d (11 + k) (n : Int)) (sPos d k n).1 (sPos d k n).2.1, (sPos d k n).2.2 + sEarn d k (d (11 + k) (n : Int)) (sPos d k n).1 (sPos d k n).2.1)
    rw [i1, e, q.1, q.2.1, hc n (by omega) 2 (by omega)]
theorem sMarg_al {d d' : zM} {k : Int} {N : Nat} (h : zAlike d d' k N) {n : Nat} (hn : n < N) : sMarg d' k (d' (11 + k) (n : Int)) (sPos d' k n).1 (sPos d' k n).2.1 = sMarg d k (d (11 + k) (n : Int)) (sPos d k n).1 (sPos d k n).2.1 := by
  rw [sPos_al h n (by omega), h.2.2.2.1 n hn]
  exact (sStp_cg h.1 h.2.1 h.2.2.1 (h.2.2.2.2 n hn)).2.2
/-- what a change answers: an error leaves the desk as it was -/
def rOK (r : Int × zM) (d : zM) : Prop := (-2147483648 ≤ r.1 ∧ r.1 ≤ 2147483647) ∧ -1000004 ≤ r.1 ∧ (r.1 ≤ -1000001 → r.2 = d)
theorem rOK_err {d : zM} {a : Int} (h : -1000004 ≤ a ∧ a ≤ 2147483647) : rOK (a, d) d := ⟨by constructor <;> show _ <;> omega, h.1, fun _ => rfl⟩
theorem rOK_ok {d d1 : zM} {a : Int} (h : 0 ≤ a ∧ a ≤ 2147483647) : rOK (a, d1) d := ⟨by constructor <;> show _ <;> omega, by show -1000004 ≤ a; omega, fun q => by have : a ≤ -1000001 := q; omega⟩
theorem sCnt_pos {d : zM} {st c : Int} (h : d (16 + c) 6 = st) (h0 : 0 ≤ c) : ∀ n : Nat, c < (n : Int) → 0 < sCnt d st n := by
  intro n
  induction n with
  | zero => intro q; exact absurd q (by omega)
  | succ n ih =>
    intro q
    have := sCnt_b d st n
    show 0 < sCnt d st n + (if d (16 + (n : Int)) 6 = st then 1 else 0)
    by_cases z : c = (n : Int)
    · rw [← z, if_pos h]; omega
    · have := ih (by omega)
      split <;> omega
/-! port -/
theorem inv_port {d : zM} (H : zInv d) (p x y : Int) : zInv (opPort d p x y).2 ∧ rOK (opPort d p x y) d := by
  unfold opPort
  split
  · exact ⟨H, rOK_err (by omega)⟩
  rename_i q1
  split
  · exact ⟨H, rOK_err (by omega)⟩
  rename_i q2
  obtain ⟨hB, h5, h6, hF, hS, hI, hL⟩ := H
  obtain ⟨hN, hP, hB3, hB4⟩ := hB
  have hz : ∀ k, 0 ≤ k ∧ k < d 0 4 → d (6 + k) 6 = 0 := by
    intro k hk
    have hs := (hB3 k hk).2.2.2.2.2
    by_cases z : d (6 + k) 6 = 0
    · exact z
    · have f1 := hF k hk 0 (by omega)
      have f2 := hS k hk 0 (by omega)
      exact absurd (sCnt_pos f2 f1.1 (d 0 5).toNat (by omega)) q2
  obtain ⟨d', hd'⟩ : ∃ d', d' = zup (zup d 1 p x) 2 p y := ⟨_, rfl⟩
  rw [← hd']
  show zInv d' ∧ rOK (_, d') d
  have e : ∀ o i, (o ≠ 1 ∨ i ≠ p) → (o ≠ 2 ∨ i ≠ p) → d' o i = d o i := fun o i a b => by rw [hd', zup_n b, zup_n a]
  have e0 : ∀ o i, o ≠ 1 → o ≠ 2 → d' o i = d o i := fun o i a b => e o i (Or.inl a) (Or.inl b)
  have ex : d' 1 p = x := by rw [hd', zup_n (by omega), zup_s]
  have ey : d' 2 p = y := by rw [hd', zup_s]
  have hp := hP p (by omega)
  refine ⟨⟨⟨?_, ?_, ?_, ?_⟩, ?_, ?_, ?_, ?_, ?_, ?_⟩, rOK_ok ?_⟩
  · unfold bN
    rw [e0 0 4 (by omega) (by omega), e0 0 5 (by omega) (by omega)]
    exact hN
  · intro r hr
    by_cases z : r = p
    · rw [z, ex, ey]
      exact ⟨by omega, by omega⟩
    · rw [e 1 r (Or.inr z) (Or.inl (by omega)), e 2 r (Or.inl (by omega)) (Or.inr z)]
      exact hP r hr
  · intro k hk
    rw [e0 0 4 (by omega) (by omega)] at hk
    have := hB3 k hk
    unfold bS at this ⊢
    rw [e0 (6 + k) 0 (by omega) (by omega), e0 (6 + k) 1 (by omega) (by omega), e0 (6 + k) 2 (by omega) (by omega), e0 (6 + k) 3 (by omega) (by omega), e0 (6 + k) 4 (by omega) (by omega), e0 (6 + k) 6 (by omega) (by omega)]
    exact this
  · intro c hc
    rw [e0 0 5 (by omega) (by omega)] at hc
    have := hB4 c hc
    unfold bC at this ⊢
    rw [e0 (16 + c) 0 (by omega) (by omega), e0 (16 + c) 1 (by omega) (by omega), e0 (16 + c) 2 (by omega) (by omega), e0 (16 + c) 3 (by omega) (by omega), e0 (16 + c) 4 (by omega) (by omega), e0 (16 + c) 5 (by omega) (by omega), e0 (16 + c) 6 (by omega) (by omega)]
    exact this
  · intro k hk
    rw [e0 0 4 (by omega) (by omega)] at hk
    have h1 := hN.1
    rw [e0 (6 + k) 5 (by omega) (by omega), e0 (6 + k) 6 (by omega) (by omega)]
    exact h5 k hk
  · intro c hc
    rw [e0 0 5 (by omega) (by omega)] at hc
    have h1 := hN.2
    rw [e0 (16 + c) 6 (by omega) (by omega)]
    exact h6 c hc
  · intro k hk z hz2
    rw [e0 0 4 (by omega) (by omega)] at hk
    rw [e0 (6 + k) 6 (by omega) (by omega), hz k hk] at hz2
    omega
  · intro k hk z hz2
    rw [e0 0 4 (by omega) (by omega)] at hk
    rw [e0 (6 + k) 6 (by omega) (by omega), hz k hk] at hz2
    omega
  · intro k k' z z' hk hk' hz2
    rw [e0 0 4 (by omega) (by omega)] at hk
    rw [e0 (6 + k) 6 (by omega) (by omega), hz k hk] at hz2
    omega
  · intro k hk n hn
    rw [e0 0 4 (by omega) (by omega)] at hk
    unfold sNum at hn
    rw [e0 (6 + k) 6 (by omega) (by omega), hz k hk] at hn
    exact absurd hn (Nat.not_lt_zero _)
  · omega
/-! ship -/
theorem inv_ship {d : zM} (H : zInv d) (z v u p t : Int) : zInv (opShip d z v u p t).2 ∧ rOK (opShip d z v u p t) d := by
  unfold opShip
  split
  · exact ⟨H, rOK_err (by omega)⟩
  rename_i q1
  split
  · exact ⟨H, rOK_err (by omega)⟩
  rename_i q2
  obtain ⟨hB, h5, h6, hF, hS, hI, hL⟩ := H
  obtain ⟨hN, hP, hB3, hB4⟩ := hB
  obtain ⟨hN1, hN2⟩ := hN
  obtain ⟨S, hSe⟩ : ∃ S, d 0 4 = S := ⟨_, rfl⟩
  rw [hSe] at q2 h5 hN1 hB3 hF hS hI hL ⊢
  obtain ⟨d', hd'⟩ : ∃ d', d' = zup (zup (zup (zup (zup (zup d (6 + S) 0 z) (6 + S) 1 v) (6 + S) 2 u) (6 + S) 3 p) (6 + S) 4 t) 0 4 (S + 1) := ⟨_, rfl⟩
  rw [← hd']
  show zInv d' ∧ rOK (_, d') d
  have e : ∀ o i, (o ≠ 6 + S ∨ i < 0 ∨ 5 ≤ i) → (o ≠ 0 ∨ i ≠ 4) → d' o i = d o i := fun o i a b => by rw [hd', zup_n b, zup_n (by omega), zup_n (by omega), zup_n (by omega), zup_n (by omega), zup_n (by omega)]
  have e4 : d' 0 4 = S + 1 := by rw [hd', zup_s]
  have f0 : d' (6 + S) 0 = z := by rw [hd', zup_n (by omega), zup_n (by omega), zup_n (by omega), zup_n (by omega), zup_n (by omega), zup_s]
  have f1 : d' (6 + S) 1 = v := by rw [hd', zup_n (by omega), zup_n (by omega), zup_n (by omega), zup_n (by omega), zup_s]
  have f2 : d' (6 + S) 2 = u := by rw [hd', zup_n (by omega), zup_n (by omega), zup_n (by omega), zup_s]
  have f3 : d' (6 + S) 3 = p := by rw [hd', zup_n (by omega), zup_n (by omega), zup_s]
  have f4 : d' (6 + S) 4 = t := by rw [hd', zup_n (by omega), zup_s]
  have f6 : d' (6 + S) 6 = 0 := by rw [e (6 + S) 6 (by omega) (by omega)]; exact (h5 S (by omega)).2
  have e6 : ∀ k, 0 ≤ k → d' (6 + k) 6 = d (6 + k) 6 := fun k hk => e (6 + k) 6 (by omega) (by omega)
  have old : ∀ k x, 0 ≤ k ∧ k < S + 1 → 0 ≤ x ∧ x < d' (6 + k) 6 → (0 ≤ k ∧ k < S) ∧ (0 ≤ x ∧ x < d (6 + k) 6) := by
    intro k x hk hx
    by_cases q : k = S
    · rw [q, f6] at hx; omega
    · rw [e6 k hk.1] at hx; exact ⟨by omega, hx⟩
  refine ⟨⟨⟨?_, ?_, ?_, ?_⟩, ?_, ?_, ?_, ?_, ?_, ?_⟩, rOK_ok (by omega)⟩
  · unfold bN
    rw [e4, e 0 5 (by omega) (by omega)]
    exact ⟨by omega, hN2⟩
  · intro r hr
    rw [e 1 r (by omega) (by omega), e 2 r (by omega) (by omega)]
    exact hP r hr
  · intro k hk
    rw [e4] at hk
    unfold bS
    by_cases q : k = S
    · subst q
      rw [f0, f1, f2, f3, f4, f6]
      omega
    · have := hB3 k (by omega)
      unfold bS at this
      rw [e (6 + k) 0 (by omega) (by omega), e (6 + k) 1 (by omega) (by omega), e (6 + k) 2 (by omega) (by omega), e (6 + k) 3 (by omega) (by omega), e (6 + k) 4 (by omega) (by omega), e (6 + k) 6 (by omega) (by omega)]
      exact this
  · intro c hc
    rw [e 0 5 (by omega) (by omega)] at hc
    have := hB4 c hc
    unfold bC at this ⊢
    rw [e (16 + c) 0 (by omega) (by omega), e (16 + c) 1 (by omega) (by omega), e (16 + c) 2 (by omega) (by omega), e (16 + c) 3 (by omega) (by omega), e (16 + c) 4 (by omega) (by omega), e (16 + c) 5 (by omega) (by omega), e (16 + c) 6 (by omega) (by omega)]
    exact this
  · intro k hk
    rw [e4] at hk
    rw [e (6 + k) 5 (by omega) (by omega), e (6 + k) 6 (by omega) (by omega)]
    exact h5 k (by omega)
  · intro c hc
    rw [e 0 5 (by omega) (by omega)] at hc
    rw [e (16 + c) 6 (by omega) (by omega)]
    exact h6 c hc
  · intro k hk x hx
    rw [e4] at hk
    have := old k x hk hx
    rw [e (11 + k) x (by omega) (by omega), e 0 5 (by omega) (by omega)]
    exact hF k this.1 x this.2
  · intro k hk x hx
    rw [e4] at hk
    have := old k x hk hx
    have hf := hF k this.1 x this.2
    rw [e (11 + k) x (by omega) (by omega), e _ 6 (by omega) (by omega)]
    exact hS k this.1 x this.2
  · intro k k' x x' hk hk' hx hx' he
    rw [e4] at hk hk'
    have a := old k x hk hx
    have b := old k' x' hk' hx'
    rw [e (11 + k) x (by omega) (by omega), e (11 + k') x' (by omega) (by omega)] at he
    exact hI k k' x x' a.1 b.1 a.2 b.2 he
  · intro k hk n hn
    rw [e4] at hk
    have hk6 := e6 k hk.1
    have hn2 : (n : Int) < d' (6 + k) 6 := by unfold sNum at hn; omega
    have a := old k n hk ⟨by omega, hn2⟩
    have hn3 : n < sNum d k := by unfold sNum; omega
    rw [sMarg_al (N := sNum d k) ⟨fun i => e 1 i (by omega) (by omega), fun i => e 2 i (by omega) (by omega), fun i hi => e (6 + k) i (by omega) (by omega), fun m hm => e (11 + k) m (by omega) (by omega), fun m hm i hi => by
      have hf := hF k a.1 m (by unfold sNum at hm; omega)
      exact e _ i (by omega) (by omega)⟩ hn3]
    exact hL k a.1 n hn3
/-! cargo -/
theorem inv_cargo {d : zM} (H : zInv d) (a g u f t w : Int) : zInv (opCargo d a g u f t w).2 ∧ rOK (opCargo d a g u f t w) d := by
  unfold opCargo
  split
  · exact ⟨H, rOK_err (by omega)⟩
  rename_i q1
  split
  · exact ⟨H, rOK_err (by omega)⟩
  rename_i q2
  obtain ⟨hB, h5, h6, hF, hS, hI, hL⟩ := H
  obtain ⟨hN, hP, hB3, hB4⟩ := hB
  obtain ⟨hN1, hN2⟩ := hN
  obtain ⟨C, hCe⟩ : ∃ C, d 0 5 = C := ⟨_, rfl⟩
  rw [hCe] at q2 h6 hN2 hB4 hF ⊢
  obtain ⟨d', hd'⟩ : ∃ d', d' = zup (zup (zup (zup (zup (zup (zup d (16 + C) 0 a) (16 + C) 1 g) (16 + C) 2 u) (16 + C) 3 f) (16 + C) 4 t) (16 + C) 5 w) 0 5 (C + 1) := ⟨_, rfl⟩
  rw [← hd']
  show zInv d' ∧ rOK (_, d') d
  have e : ∀ o i, (o ≠ 16 + C ∨ i < 0 ∨ 6 ≤ i) → (o ≠ 0 ∨ i ≠ 5) → d' o i = d o i := fun o i a b => by rw [hd', zup_n b, zup_n (by omega), zup_n (by omega), zup_n (by omega), zup_n (by omega), zup_n (by omega), zup_n (by omega)]
  have e5 : d' 0 5 = C + 1 := by rw [hd', zup_s]
  have f0 : d' (16 + C) 0 = a := by rw [hd', zup_n (by omega), zup_n (by omega), zup_n (by omega), zup_n (by omega), zup_n (by omega), zup_n (by omega), zup_s]
  have f1 : d' (16 + C) 1 = g := by rw [hd', zup_n (by omega), zup_n (by omega), zup_n (by omega), zup_n (by omega), zup_n (by omega), zup_s]
  have f2 : d' (16 + C) 2 = u := by rw [hd', zup_n (by omega), zup_n (by omega), zup_n (by omega), zup_n (by omega), zup_s]
  have f3 : d' (16 + C) 3 = f := by rw [hd', zup_n (by omega), zup_n (by omega), zup_n (by omega), zup_s]
  have f4 : d' (16 + C) 4 = t := by rw [hd', zup_n (by omega), zup_n (by omega), zup_s]
  have f5 : d' (16 + C) 5 = w := by rw [hd', zup_n (by omega), zup_s]
  have f6 : d' (16 + C) 6 = 0 := by rw [e (16 + C) 6 (by omega) (by omega)]; exact h6 C (by omega)
  have eS : d' 0 4 = d 0 4 := e 0 4 (by omega) (by omega)
  refine ⟨⟨⟨?_, ?_, ?_, ?_⟩, ?_, ?_, ?_, ?_, ?_, ?_⟩, rOK_ok (by omega)⟩
  · unfold bN
    rw [e5, eS]
    exact ⟨hN1, by omega⟩
  · intro r hr
    rw [e 1 r (by omega) (by omega), e 2 r (by omega) (by omega)]
    exact hP r hr
  · intro k hk
    rw [eS] at hk
    have := hB3 k hk
    unfold bS at this ⊢
    rw [e (6 + k) 0 (by omega) (by omega), e (6 + k) 1 (by omega) (by omega), e (6 + k) 2 (by omega) (by omega), e (6 + k) 3 (by omega) (by omega), e (6 + k) 4 (by omega) (by omega), e (6 + k) 6 (by omega) (by omega)]
    exact this
  · intro c hc
    rw [e5] at hc
    unfold bC
    by_cases q : c = C
    · subst q
      rw [f0, f1, f2, f3, f4, f5, f6]
      omega
    · have := hB4 c (by omega)
      unfold bC at this
      rw [e (16 + c) 0 (by omega) (by omega), e (16 + c) 1 (by omega) (by omega), e (16 + c) 2 (by omega) (by omega), e (16 + c) 3 (by omega) (by omega), e (16 + c) 4 (by omega) (by omega), e (16 + c) 5 (by omega) (by omega), e (16 + c) 6 (by omega) (by omega)]
      exact this
  · intro k hk
    rw [eS] at hk
    rw [e (6 + k) 5 (by omega) (by omega), e (6 + k) 6 (by omega) (by omega)]
    exact h5 k hk
  · intro c hc
    rw [e5] at hc
    rw [e (16 + c) 6 (by omega) (by omega)]
    exact h6 c (by omega)
  · intro k hk x hx
    rw [eS] at hk
    rw [e (6 + k) 6 (by omega) (by omega)] at hx
    rw [e (11 + k) x (by omega) (by omega), e5]
    have := hF k hk x hx
    omega
  · intro k hk x hx
    rw [eS] at hk
    rw [e (6 + k) 6 (by omega) (by omega)] at hx
    have hf := hF k hk x hx
    rw [e (11 + k) x (by omega) (by omega), e _ 6 (by omega) (by omega)]
    exact hS k hk x hx
  · intro k k' x x' hk hk' hx hx' he
    rw [eS] at hk hk'
    rw [e (6 + k) 6 (by omega) (by omega)] at hx
    rw [e (6 + k') 6 (by omega) (by omega)] at hx'
    rw [e (11 + k) x (by omega) (by omega), e (11 + k') x' (by omega) (by omega)] at he
    exact hI k k' x x' hk hk' hx hx' he
  · intro k hk n hn
    rw [eS] at hk
    have hn3 : n < sNum d k := by unfold sNum at hn ⊢; rw [e (6 + k) 6 (by omega) (by omega)] at hn; exact hn
    rw [sMarg_al (N := sNum d k) ⟨fun i => e 1 i (by omega) (by omega), fun i => e 2 i (by omega) (by omega), fun i hi => e (6 + k) i (by omega) (by omega), fun m hm => e (11 + k) m (by omega) (by omega), fun m hm i hi => by
      have hf := hF k hk m (by unfold sNum at hm; omega)
      exact e _ i (by omega) (by omega)⟩ hn3]
    exact hL k hk n hn3
/-! fix -/
theorem inv_fix {d : zM} (H : zInv d) (k c : Int) : zInv (opFix d k c).2 ∧ rOK (opFix d k c) d := by
  unfold opFix
  split
  · exact ⟨H, rOK_err (by omega)⟩
  rename_i q1
  split
  · exact ⟨H, rOK_err (by omega)⟩
  rename_i q2
  have hfull := zInv_full H k c (by omega) (by omega) (by omega)
  have hv := sVoy_b H (k := k) (c := c) (by omega) (by omega)
  have hg := (zInv_G H k (by omega)).2 _ (Nat.le_refl _)
  have hg2 : 0 ≤ (sEnd d k).2.1 ∧ (sEnd d k).2.1 ≤ 2000 := hg.2
  obtain ⟨hB, h5, h6, hF, hS, hI, hL⟩ := H
  obtain ⟨hN, hP, hB3, hB4⟩ := hB
  obtain ⟨hN1, hN2⟩ := hN
  have hk : 0 ≤ k ∧ k < d 0 4 := by omega
  have hc : 0 ≤ c ∧ c < d 0 5 := by omega
  have hs6 := (hB3 k hk).2.2.2.2.2
  have hm : 0 ≤ sMarg d k c (sEnd d k).1 (sEnd d k).2.1 := by
    have q3 : sCould d k c = 0 := by omega
    unfold sCould at q3
    split at q3
    · omega
    · split at q3 <;> omega
  obtain ⟨n0, hn0⟩ : ∃ n0, d (6 + k) 6 = n0 := ⟨_, rfl⟩
  obtain ⟨d', hd'⟩ : ∃ d', d' = zup (zup (zup (zup d (11 + k) (d (6 + k) 6) c) (6 + k) 6 (d (6 + k) 6 + 1)) (16 + c) 6 1) (16 + c) 7 k := ⟨_, rfl⟩
  rw [← hd']
  show zInv d' ∧ rOK (_, d') d
  rw [hn0] at hd' hs6 hfull
  have e : ∀ o i, (o ≠ 11 + k ∨ i ≠ n0) → (o ≠ 6 + k ∨ i ≠ 6) → (o ≠ 16 + c ∨ (i ≠ 6 ∧ i ≠ 7)) → d' o i = d o i := fun o i x y z => by rw [hd', zup_n (by omega), zup_n (by omega), zup_n (by omega), zup_n (by omega)]
  have eS : d' 0 4 = d 0 4 := e 0 4 (by omega) (by omega) (by omega)
  have eC : d' 0 5 = d 0 5 := e 0 5 (by omega) (by omega) (by omega)
  have fn : d' (6 + k) 6 = n0 + 1 := by rw [hd', zup_n (by omega), zup_n (by omega), zup_s]
  have fx : d' (11 + k) n0 = c := by rw [hd', zup_n (by omega), zup_n (by omega), zup_n (by omega), zup_s]
  have fs : d' (16 + c) 6 = 1 := by rw [hd', zup_n (by omega), zup_s]
  have e6 : ∀ j, 0 ≤ j ∧ j < 5 → j ≠ k → d' (6 + j) 6 = d (6 + j) 6 := fun j _ hj => e (6 + j) 6 (by omega) (by omega) (by omega)
  have es : ∀ y, y ≠ c → 0 ≤ y → d' (16 + y) 6 = d (16 + y) 6 := fun y hy _ => e (16 + y) 6 (by omega) (by omega) (by omega)
  have old : ∀ j x, 0 ≤ j ∧ j < d 0 4 → 0 ≤ x ∧ x < d' (6 + j) 6 → (j = k ∧ x = n0) ∨ ((0 ≤ x ∧ x < d (6 + j) 6) ∧ d' (11 + j) x = d (11 + j) x ∧ d (11 + j) x ≠ c) := by
    intro j x hj hx
    by_cases q : j = k
    · subst q
      rw [fn] at hx
      by_cases r : x = n0
      · exact Or.inl ⟨rfl, r⟩
      · refine Or.inr ⟨by omega, e (11 + j) x (by omega) (by omega) (by omega), fun z => ?_⟩
        have := hS j hj x (by omega)
        rw [z] at this
        omega
    · rw [e6 j (by omega) q] at hx
      refine Or.inr ⟨hx, e (11 + j) x (by omega) (by omega) (by omega), fun z => ?_⟩
      have := hS j hj x hx
      rw [z] at this
      omega
  refine ⟨⟨⟨?_, ?_, ?_, ?_⟩, ?_, ?_, ?_, ?_, ?_, ?_⟩, rOK_ok (by omega)⟩
  · unfold bN
    rw [eS, eC]
    exact ⟨hN1, hN2⟩
  · intro r hr
    rw [e 1 r (by omega) (by omega) (by omega), e 2 r (by omega) (by omega) (by omega)]
    exact hP r hr
  · intro j hj
    rw [eS] at hj
    have := hB3 j hj
    unfold bS at this ⊢
    rw [e (6 + j) 0 (by omega) (by omega) (by omega), e (6 + j) 1 (by omega) (by omega) (by omega), e (6 + j) 2 (by omega) (by omega) (by omega), e (6 + j) 3 (by omega) (by omega) (by omega), e (6 + j) 4 (by omega) (by omega) (by omega)]
    by_cases q : j = k
    · subst q
      rw [fn]
      omega
    · rw [e6 j (by omega) q]
      exact this
  · intro y hy
    rw [eC] at hy
    have := hB4 y hy
    unfold bC at this ⊢
    rw [e (16 + y) 0 (by omega) (by omega) (by omega), e (16 + y) 1 (by omega) (by omega) (by omega), e (16 + y) 2 (by omega) (by omega) (by omega), e (16 + y) 3 (by omega) (by omega) (by omega), e (16 + y) 4 (by omega) (by omega) (by omega), e (16 + y) 5 (by omega) (by omega) (by omega)]
    by_cases q : y = c
    · rw [q, fs]
      rw [q] at this
      omega
    · rw [es y q hy.1]
      exact this
  · intro j hj
    rw [eS] at hj
    rw [e (6 + j) 5 (by omega) (by omega) (by omega), e6 j (by omega) (by omega)]
    exact h5 j hj
  · intro y hy
    rw [eC] at hy
    rw [es y (by omega) (by omega)]
    exact h6 y hy
  · intro j hj x hx
    rw [eS] at hj
    rw [eC]
    rcases old j x hj hx with ⟨rfl, rfl⟩ | ⟨a, b, _⟩
    · rw [fx]; exact hc
    · rw [b]; exact hF j hj x a
  · intro j hj x hx
    rw [eS] at hj
    rcases old j x hj hx with ⟨rfl, rfl⟩ | ⟨a, b, c9⟩
    · rw [fx, fs]
    · have hf := hF j hj x a
      rw [b, es _ c9 hf.1]
      exact hS j hj x a
  · intro j j' x x' hj hj' hx hx' he
    rw [eS] at hj hj'
    rcases old j x hj hx with ⟨a1, a2⟩ | ⟨a, b, c9⟩ <;> rcases old j' x' hj' hx' with ⟨b1, b2⟩ | ⟨a', b', c9'⟩
    · omega
    · rw [a1, a2, fx, b'] at he
      exact absurd he.symm c9'
    · rw [b1, b2, fx, b] at he
      exact absurd he c9
    · rw [b, b'] at he
      exact hI j j' x x' hj hj' a a' he
  · intro j hj n hn
    rw [eS] at hj
    have al : zAlike d d' j (sNum d j) := ⟨fun i => e 1 i (by omega) (by omega) (by omega), fun i => e 2 i (by omega) (by omega) (by omega), fun i hi => e (6 + j) i (by omega) (by omega) (by omega), fun m hm9 => e (11 + j) m (by
      by_cases q : j = k
      · subst q; right; unfold sNum at hm9; omega
      · left; omega) (by omega) (by omega), fun m hm i hi => by
      have hf := hF j hj m (by unfold sNum at hm; omega)
      exact e _ i (by omega) (by omega) (by omega)⟩
    by_cases hn3 : n < sNum d j
    · rw [sMarg_al al hn3]
      exact hL j hj n hn3
    · have hjk : j = k := by
        by_cases q : j = k
        · exact q
        · exfalso
          unfold sNum at hn hn3
          rw [e6 j (by omega) q] at hn
          omega
      subst hjk
      have hnn : n = sNum d j := by unfold sNum at hn hn3 ⊢; rw [fn] at hn; omega
      have hnI : (n : Int) = n0 := by unfold sNum at hnn; omega
      rw [sPos_al al n (by omega), hnI, fx, hnn]
      have := (sStp_cg (d := d) (d' := d') (c := c) (p := (sEnd d j).1) (t := (sEnd d j).2.1) al.1 al.2.1 al.2.2.1 (fun i hi => e (16 + c) i (by omega) (by omega) (by omega))).2.2
      show 0 ≤ sMarg d' j c (sEnd d j).1 (sEnd d j).2.1
      rw [this]
      exact hm
/-! dropping -/
theorem inv_drop {d D1 d4 : zM} {k T st : Int} (H : zInv d) (hk : 0 ≤ k ∧ k < d 0 4) (hD1 : bD D1) (hT : 0 ≤ T ∧ T ≤ d (6 + k) 6) (hst : 0 ≤ st ∧ st ≤ 2)
    (e1 : ∀ o i, (o ≠ 6 + k ∨ i < 3 ∨ 5 < i) → (o ≠ 0 ∨ i < 6) → D1 o i = d o i)
    (e4 : ∀ o i, o < 16 → (o ≠ 6 + k ∨ (i ≠ 5 ∧ i ≠ 6)) → (o ≠ 0 ∨ i < 6) → d4 o i = D1 o i)
    (e6 : d4 (6 + k) 6 = T) (ec : ∀ c i, 0 ≤ c → i ≠ 6 → d4 (16 + c) i = d (16 + c) i)
    (es : ∀ c, 0 ≤ c → d4 (16 + c) 6 = d (16 + c) 6 ∨ d4 (16 + c) 6 = st)
    (ek : ∀ c, 0 ≤ c → (∀ j, T ≤ j ∧ j < d (6 + k) 6 → d (11 + k) j ≠ c) → d4 (16 + c) 6 = d (16 + c) 6)
    (hm : ∀ n : Nat, (n : Int) < T → 0 ≤ sMarg D1 k (D1 (11 + k) (n : Int)) (sPos D1 k n).1 (sPos D1 k n).2.1) : zInv d4 := by
  obtain ⟨hB, h5, h6, hF, hS, hI, hL⟩ := H
  obtain ⟨hN, hP, hB3, hB4⟩ := hB
  obtain ⟨hN1, hN2⟩ := hN
  obtain ⟨gN, gP, gS, gC⟩ := hD1
  have eS : d4 0 4 = d 0 4 := (e4 0 4 (by omega) (by omega) (by omega)).trans (e1 0 4 (by omega) (by omega))
  have eC : d4 0 5 = d 0 5 := (e4 0 5 (by omega) (by omega) (by omega)).trans (e1 0 5 (by omega) (by omega))
  have eS1 : D1 0 4 = d 0 4 := e1 0 4 (by omega) (by omega)
  have eC1 : D1 0 5 = d 0 5 := e1 0 5 (by omega) (by omega)
  have en : ∀ j, 0 ≤ j ∧ j < 5 → j ≠ k → d4 (6 + j) 6 = d (6 + j) 6 := fun j hj q => (e4 (6 + j) 6 (by omega) (by omega) (by omega)).trans (e1 (6 + j) 6 (by omega) (by omega))
  have ex : ∀ j x, 0 ≤ j ∧ j < 5 → d4 (11 + j) x = d (11 + j) x := fun j x hj => (e4 (11 + j) x (by omega) (by omega) (by omega)).trans (e1 (11 + j) x (by omega) (by omega))
  have old : ∀ j x, 0 ≤ j ∧ j < d 0 4 → 0 ≤ x ∧ x < d4 (6 + j) 6 → (0 ≤ x ∧ x < d (6 + j) 6) ∧ (j ≠ k ∨ x < T) := by
    intro j x hj hx
    by_cases q : j = k
    · rw [q, e6] at hx; rw [q]; omega
    · rw [en j (by omega) q] at hx; omega
  refine ⟨⟨?_, ?_, ?_, ?_⟩, ?_, ?_, ?_, ?_, ?_, ?_⟩
  · unfold bN
    rw [eS, eC]
    exact ⟨hN1, hN2⟩
  · intro r hr
    rw [e4 1 r (by omega) (by omega) (by omega), e4 2 r (by omega) (by omega) (by omega)]
    exact gP r hr
  · intro j hj
    rw [eS] at hj
    have := gS j (by omega)
    unfold bS at this ⊢
    rw [e4 (6 + j) 0 (by omega) (by omega) (by omega), e4 (6 + j) 1 (by omega) (by omega) (by omega), e4 (6 + j) 2 (by omega) (by omega) (by omega), e4 (6 + j) 3 (by omega) (by omega) (by omega), e4 (6 + j) 4 (by omega) (by omega) (by omega)]
    have h9 := (hB3 j hj).2.2.2.2.2
    by_cases q : j = k
    · subst q
      rw [e6]
      omega
    · rw [en j (by omega) q]
      omega
  · intro c hc
    rw [eC] at hc
    have := hB4 c hc
    unfold bC at this ⊢
    rw [ec c 0 hc.1 (by omega), ec c 1 hc.1 (by omega), ec c 2 hc.1 (by omega), ec c 3 hc.1 (by omega), ec c 4 hc.1 (by omega), ec c 5 hc.1 (by omega)]
    rcases es c hc.1 with q | q <;> rw [q] <;> omega
  · intro j hj
    rw [eS] at hj
    rw [e4 (6 + j) 5 (by omega) (by omega) (by omega), e1 (6 + j) 5 (by omega) (by omega), en j (by omega) (by omega)]
    exact h5 j hj
  · intro c hc
    rw [eC] at hc
    rw [ek c (by omega) (fun j hj z => by
      have := hF k hk j (by omega)
      omega)]
    exact h6 c hc
  · intro j hj x hx
    rw [eS] at hj
    rw [eC, ex j x (by omega)]
    exact hF j hj x (old j x hj hx).1
  · intro j hj x hx
    rw [eS] at hj
    obtain ⟨a, b⟩ := old j x hj hx
    have hf := hF j hj x a
    rw [ex j x (by omega), ek _ hf.1 (fun y hy z => by
      have := hI k j y x hk hj (by omega) a z
      omega)]
    exact hS j hj x a
  · intro j j' x x' hj hj' hx hx' he
    rw [eS] at hj hj'
    rw [ex j x (by omega), ex j' x' (by omega)] at he
    exact hI j j' x x' hj hj' (old j x hj hx).1 (old j' x' hj' hx').1 he
  · intro j hj n hn
    rw [eS] at hj
    have hn2 : (n : Int) < d4 (6 + j) 6 := by unfold sNum at hn; omega
    obtain ⟨a, b⟩ := old j n hj ⟨by omega, hn2⟩
    by_cases q : j = k
    · subst q
      have al : zAlike D1 d4 j (n + 1) := ⟨fun i => e4 1 i (by omega) (by omega) (by omega), fun i => e4 2 i (by omega) (by omega) (by omega), fun i hi => e4 (6 + j) i (by omega) (by omega) (by omega), fun m hm => e4 (11 + j) m (by omega) (by omega) (by omega), fun m hm i hi => by
        have hf := hF j hj m (by omega)
        rw [e1 (11 + j) m (by omega) (by omega), ec _ i hf.1 (by omega), e1 _ i (by omega) (by omega)]⟩
      rw [sMarg_al al (by omega)]
      exact hm n (by omega)
    · have al : zAlike d d4 j (sNum d j) := ⟨fun i => (e4 1 i (by omega) (by omega) (by omega)).trans (e1 1 i (by omega) (by omega)), fun i => (e4 2 i (by omega) (by omega) (by omega)).trans (e1 2 i (by omega) (by omega)), fun i hi => (e4 (6 + j) i (by omega) (by omega) (by omega)).trans (e1 (6 + j) i (by omega) (by omega)), fun m hm => ex j m (by omega), fun m hm i hi => ec _ i (hF j hj m (by unfold sNum at hm; omega)).1 (by omega)⟩
      have hn3 : n < sNum d j := by unfold sNum; omega
      rw [sMarg_al al hn3]
      exact hL j hj n hn3
theorem sDrop_n {k st o i : Int} (hk : 0 ≤ k ∧ k < 5) : ∀ (r : Nat) (x : Int) (d : zM), (∀ j : Int, x ≤ j ∧ j < x + (r : Int) → 0 ≤ d (11 + k) j ∧ (i ≠ 6 ∨ o ≠ 16 + d (11 + k) j)) → sDrop k st r x d o i = d o i := by
  intro r
  induction r with
  | zero => intro x d _; rfl
  | succ r ih =>
    intro x d h
    have h0 := h x (by omega)
    show sDrop k st r (x + 1) (zup d (16 + d (11 + k) x) 6 st) o i = d o i
    rw [ih (x + 1) _ (fun j hj => by
      have := h j (by omega)
      rw [zup_n (by omega)]
      exact this), zup_n (by omega)]
theorem sDrop_m {k st o : Int} (hk : 0 ≤ k ∧ k < 5) : ∀ (r : Nat) (x : Int) (d : zM), (∀ j : Int, x ≤ j ∧ j < x + (r : Int) → 0 ≤ d (11 + k) j) → sDrop k st r x d o 6 = d o 6 ∨ sDrop k st r x d o 6 = st := by
  intro r
  induction r with
  | zero => intro x d _; exact Or.inl rfl
  | succ r ih =>
    intro x d h
    have h0 := h x (by omega)
    have := ih (x + 1) (zup d (16 + d (11 + k) x) 6 st) (fun j hj => by
      rw [zup_n (by omega)]
      exact h j (by omega))
    show sDrop k st r (x + 1) (zup d (16 + d (11 + k) x) 6 st) o 6 = d o 6 ∨ sDrop k st r (x + 1) (zup d (16 + d (11 + k) x) 6 st) o 6 = st
    rcases this with q | q
    · by_cases z : o = 16 + d (11 + k) x
      · right; rw [q, z, zup_s]
      · left; rw [q, zup_n (by omega)]
    · exact Or.inr q
theorem sTime_ok {d : zM} {k : Int} : ∀ (r n m : Nat), n ≤ m ∧ m < sTime d k r n → 0 ≤ sMarg d k (d (11 + k) (m : Int)) (sPos d k m).1 (sPos d k m).2.1 := by
  intro r
  induction r with
  | zero => intro n m h; exact absurd h.2 (by show ¬ m < n; omega)
  | succ r ih =>
    intro n m h
    by_cases q : sMarg d k (d (11 + k) (n : Int)) (sPos d k n).1 (sPos d k n).2.1 < 0
    · rw [sTime_p q] at h; omega
    · rw [sTime_n q] at h
      by_cases z : m = n
      · rw [z]; omega
      · exact ih (n + 1) m (by omega)
theorem inv_delay {d : zM} (H : zInv d) (k n : Int) : zInv (opDelay d k n).2 ∧ rOK (opDelay d k n) d := by
  unfold opDelay
  split
  · exact ⟨H, rOK_err (by omega)⟩
  rename_i q1
  split
  · exact ⟨H, rOK_err (by omega)⟩
  rename_i q2
  have hk : 0 ≤ k ∧ k < d 0 4 := by omega
  have hk5 : 0 ≤ k ∧ k < 5 := by have := H.1.1.1; omega
  have hs := (H.1.2.2.1 k hk).2.2.2.2.2
  have hNe := sNum_e (d := d) (k := k) hs.1
  have hT := sInT_b (sLater d k n) k
  rw [sLat_n] at hT
  have hBl := bD_later H.1 hk (n := n) (by omega) (by omega)
  have hF := zInv_F H k hk
  have hm0 := sTime_ok (d := sLater d k n) (k := k) (sNum (sLater d k n) k) 0
  change ∀ m : Nat, 0 ≤ m ∧ m < sInT (sLater d k n) k → _ at hm0
  generalize sInT (sLater d k n) k = T at hT hm0
  generalize hD1 : sLater d k n = D1 at hBl hm0 ⊢
  have e1 : ∀ o i, (o ≠ 6 + k ∨ i ≠ 4) → D1 o i = d o i := fun o i h => by rw [← hD1]; exact zup_n h
  obtain ⟨d4, hd4⟩ : ∃ d4, d4 = zup (zup (sDrop k 2 (sNum d k - T) (T : Int) D1) (6 + k) 6 (T : Int)) 0 6 (d 0 6 + (d (6 + k) 6 - (T : Int))) := ⟨_, rfl⟩
  rw [← hd4]
  show zInv d4 ∧ rOK (_, d4) d
  have hx : ∀ j : Int, (T : Int) ≤ j ∧ j < (T : Int) + ((sNum d k - T : Nat) : Int) → 0 ≤ D1 (11 + k) j := fun j hj => by
    rw [e1 (11 + k) j (by omega)]
    exact (hF j (by omega)).1
  refine ⟨inv_drop (D1 := D1) (T := (T : Int)) (st := 2) H hk hBl (by omega) (by omega) (fun o i a b => e1 o i (by omega)) ?_ ?_ ?_ ?_ ?_ (fun m hm => hm0 m (by omega)), rOK_ok (by omega)⟩
  · intro o i ho a b
    rw [hd4, zup_n (by omega), zup_n (by omega)]
    exact sDrop_n hk5 _ _ _ (fun j hj => ⟨hx j hj, Or.inr (by have := hx j hj; omega)⟩)
  · rw [hd4, zup_n (by omega), zup_s]
  · intro c i hc hi
    rw [hd4, zup_n (by omega), zup_n (by omega), sDrop_n hk5 _ _ _ (fun j hj => ⟨hx j hj, Or.inl hi⟩)]
    exact e1 _ i (by omega)
  · intro c hc
    rw [hd4, zup_n (by omega), zup_n (by omega), ← e1 (16 + c) 6 (by omega)]
    exact sDrop_m hk5 _ _ _ hx
  · intro c hc hj
    rw [hd4, zup_n (by omega), zup_n (by omega), ← e1 (16 + c) 6 (by omega)]
    refine sDrop_n hk5 _ _ _ (fun j hj2 => ⟨hx j hj2, Or.inr ?_⟩)
    have := hj j (by omega)
    rw [e1 (11 + k) j (by omega)]
    omega
theorem sPay_b {d : zM} {c : Int} (hc : bC d c) : 0 ≤ sPay d c ∧ sPay d c ≤ 10000 := by
  have := worth_b hc
  unfold sPay
  omega
theorem inv_off {d : zM} (H : zInv d) (k : Int) : zInv (opOff d k).2 ∧ rOK (opOff d k) d := by
  unfold opOff
  split
  · exact ⟨H, rOK_err (by omega)⟩
  rename_i q1
  split
  · exact ⟨H, rOK_err (by omega)⟩
  rename_i q2
  have hk : 0 ≤ k ∧ k < d 0 4 := by omega
  have hk5 : 0 ≤ k ∧ k < 5 := by have := H.1.1.1; omega
  have hs := (H.1.2.2.1 k hk).2.2.2.2.2
  have hF := zInv_F H k hk
  have hf := hF (d (6 + k) 6 - 1) (by omega)
  have hp := sPay_b (H.1.2.2.2 _ hf)
  generalize hP : sPay d (d (11 + k) (d (6 + k) 6 - 1)) = P at hp ⊢
  generalize hT : d (6 + k) 6 - 1 = T at hf ⊢
  obtain ⟨d4, hd4⟩ : ∃ d4, d4 = zup (zup (zup (sDrop k 0 1 T d) (6 + k) 6 T) (6 + k) 5 (d (6 + k) 5 - P)) 0 7 (d 0 7 + 1) := ⟨_, rfl⟩
  rw [← hd4]
  show zInv d4 ∧ rOK (_, d4) d
  have hx : ∀ j : Int, T ≤ j ∧ j < T + ((1 : Nat) : Int) → 0 ≤ d (11 + k) j := fun j hj => (hF j (by omega)).1
  refine ⟨inv_drop (D1 := d) (T := T) (st := 0) H hk H.1 (by omega) (by omega) (fun o i a b => rfl) ?_ ?_ ?_ ?_ ?_ (fun m hm => H.2.2.2.2.2.2 k hk m (by unfold sNum; omega)), rOK_ok (by omega)⟩
  · intro o i ho a b
    rw [hd4, zup_n (by omega), zup_n (by omega), zup_n (by omega)]
    exact sDrop_n hk5 _ _ _ (fun j hj => ⟨hx j hj, Or.inr (by have := hx j hj; omega)⟩)
  · rw [hd4, zup_n (by omega), zup_n (by omega), zup_s]
  · intro c i hc hi
    rw [hd4, zup_n (by omega), zup_n (by omega), zup_n (by omega)]
    exact sDrop_n hk5 _ _ _ (fun j hj => ⟨hx j hj, Or.inl hi⟩)
  · intro c hc
    rw [hd4, zup_n (by omega), zup_n (by omega), zup_n (by omega)]
    exact sDrop_m hk5 _ _ _ hx
  · intro c hc hj
    rw [hd4, zup_n (by omega), zup_n (by omega), zup_n (by omega)]
    refine sDrop_n hk5 _ _ _ (fun j hj2 => ⟨hx j hj2, Or.inr ?_⟩)
    have := hj j (by omega)
    omega
/-- what a ship's fixtures earn together is no error -/
theorem sSum_b {d : zM} (H : zInv d) {k : Int} (hk : 0 ≤ k ∧ k < d 0 4) : ∀ n : Nat, n ≤ sNum d k → 0 ≤ (sPos d k n).2.2 + ((sPos d k n).2.1 - d (6 + k) 4) * d (6 + k) 2 ∧ (sPos d k n).2.2 ≤ 9801 * (n : Int) ∧ d (6 + k) 4 ≤ (sPos d k n).2.1 := by
  have hG := zInv_G H k hk
  have hs := H.1.2.2.1 k hk
  intro n
  induction n with
  | zero =>
    intro _
    show 0 ≤ (0 : Int) + (d (6 + k) 4 - d (6 + k) 4) * d (6 + k) 2 ∧ (0 : Int) ≤ _ ∧ d (6 + k) 4 ≤ d (6 + k) 4
    rw [Int.sub_self, Int.zero_mul]
    omega
  | succ n ih =>
    intro hn
    obtain ⟨i1, i2, i3⟩ := ih (by omega)
    have hf := hG.1 n (by omega)
    have hg := hG.2 n (by omega)
    have hc := H.1.2.2.2 _ hf
    have e1 := sArr_b (t := (sPos d k n).2.1) H.1.2.1 hs.2.1 hc hg.1
    have e2 := sLoad_b (t := (sPos d k n).2.1) H.1.2.1 hs.2.1 hc hg.1
    have e3 := sFree_b (t := (sPos d k n).2.1) H.1.2.1 hs.2.1 hc hg.1
    have hw := worth_b hc
    show 0 ≤ (sPos d k n).2.2 + sEarn d k (d (11 + k) (n : Int)) (sPos d k n).1 (sPos d k n).2.1 + (sFree d k (d (11 + k) (n : Int)) (sPos d k n).1 (sPos d k n).2.1 - d (6 + k) 4) * d (6 + k) 2 ∧ (sPos d k n).2.2 + sEarn d k (d (11 + k) (n : Int)) (sPos d k n).1 (sPos d k n).2.1 ≤ _ ∧ d (6 + k) 4 ≤ sFree d k (d (11 + k) (n : Int)) (sPos d k n).1 (sPos d k n).2.1
    unfold sEarn
    generalize sFree d k (d (11 + k) (n : Int)) (sPos d k n).1 (sPos d k n).2.1 = F at e3 ⊢
    generalize (sPos d k n).2.1 = t at i1 i3 e1 e2 e3 ⊢
    generalize (sPos d k n).2.2 = q at i1 i2 ⊢
    have hs2 := hs.2.2.1
    have m0 : 0 ≤ (F - t) * d (6 + k) 2 := Int.mul_nonneg (by omega) (by omega)
    have m1 : (F - d (6 + k) 4) * d (6 + k) 2 = (F - t) * d (6 + k) 2 + (t - d (6 + k) 4) * d (6 + k) 2 := by
      rw [← Int.add_mul]
      congr 1
      omega
    refine ⟨by omega, by omega, by omega⟩
theorem sEnd_b {d : zM} (H : zInv d) {k : Int} (hk : 0 ≤ k ∧ k < d 0 4) : -200000 ≤ (sEnd d k).2.2 ∧ (sEnd d k).2.2 ≤ 100000 := by
  obtain ⟨h1, h2, h3⟩ := sSum_b H hk (sNum d k) (Nat.le_refl _)
  have hs := H.1.2.2.1 k hk
  have hg := (zInv_G H k hk).2 _ (Nat.le_refl _)
  have hs2 := hs.2.2.1
  have hs4 := hs.2.2.2.2.1
  have m : ((sPos d k (sNum d k)).2.1 - d (6 + k) 4) * d (6 + k) 2 ≤ 2000 * 99 := Int.mul_le_mul (by omega) hs.2.2.1.2 (by omega) (by omega)
  have hs6 := hs.2.2.2.2.2
  have hn : (sNum d k : Int) ≤ 10 := by have := sNum_e (d := d) (k := k) hs.2.2.2.2.2.1; omega
  show -200000 ≤ (sPos d k (sNum d k)).2.2 ∧ (sPos d k (sNum d k)).2.2 ≤ 100000
  omega
theorem inv_settle {d : zM} (H : zInv d) (k : Int) : zInv (opSettle d k).2 ∧ rOK (opSettle d k) d := by
  unfold opSettle
  split
  · exact ⟨H, rOK_err (by omega)⟩
  rename_i q1
  split
  · exact ⟨H, rOK_err (by omega)⟩
  rename_i q2
  have hk : 0 ≤ k ∧ k < d 0 4 := by omega
  have hk5 : 0 ≤ k ∧ k < 5 := by have := H.1.1.1; omega
  have hs := (H.1.2.2.1 k hk).2.2.2.2.2
  have hNe := sNum_e (d := d) (k := k) hs.1
  have hF := zInv_F H k hk
  have hE := sEnd_b H hk
  have hpos := sPos_b H.1 hk (sNum d k) (fun m hm => hF m (by omega)) (H.2.2.2.2.2.2 k hk)
  have hp1 : 0 ≤ (sEnd d k).1 ∧ (sEnd d k).1 ≤ 7 := hpos.1
  have hp2 : 0 ≤ (sEnd d k).2.1 ∧ (sEnd d k).2.1 ≤ 1999 := hpos.2
  obtain ⟨D1, hD1⟩ : ∃ D1, D1 = zup (zup (zup d (6 + k) 5 (d (6 + k) 5 + (sEnd d k).2.2)) (6 + k) 3 (sEnd d k).1) (6 + k) 4 (sEnd d k).2.1 := ⟨_, rfl⟩
  rw [← hD1]
  have e1 : ∀ o i, (o ≠ 6 + k ∨ i < 3 ∨ 5 < i) → D1 o i = d o i := fun o i h => by rw [hD1, zup_n (by omega), zup_n (by omega), zup_n (by omega)]
  have g3 : D1 (6 + k) 3 = (sEnd d k).1 := by rw [hD1, zup_n (by omega), zup_s]
  have g4 : D1 (6 + k) 4 = (sEnd d k).2.1 := by rw [hD1, zup_s]
  have hB1 : bD D1 := by
    obtain ⟨hN, hP, hB3, hB4⟩ := H.1
    refine ⟨?_, ?_, ?_, ?_⟩
    · unfold bN
      rw [e1 0 4 (by omega), e1 0 5 (by omega)]
      exact hN
    · intro p hp
      rw [e1 1 p (by omega), e1 2 p (by omega)]
      exact hP p hp
    · intro j hj
      rw [e1 0 4 (by omega)] at hj
      have := hB3 j hj
      unfold bS at this ⊢
      rw [e1 (6 + j) 0 (by omega), e1 (6 + j) 1 (by omega), e1 (6 + j) 2 (by omega), e1 (6 + j) 6 (by omega)]
      by_cases q : j = k
      · subst q
        rw [g3, g4]
        omega
      · rw [e1 (6 + j) 3 (by omega), e1 (6 + j) 4 (by omega)]
        exact this
    · intro c hc
      rw [e1 0 5 (by omega)] at hc
      have := hB4 c hc
      unfold bC at this ⊢
      rw [e1 (16 + c) 0 (by omega), e1 (16 + c) 1 (by omega), e1 (16 + c) 2 (by omega), e1 (16 + c) 3 (by omega), e1 (16 + c) 4 (by omega), e1 (16 + c) 5 (by omega), e1 (16 + c) 6 (by omega)]
      exact this
  obtain ⟨d4, hd4⟩ : ∃ d4, d4 = zup (sDrop k 2 (sNum d k) 0 D1) (6 + k) 6 0 := ⟨_, rfl⟩
  rw [← hd4]
  show zInv d4 ∧ rOK (_, d4) d
  have hx : ∀ j : Int, 0 ≤ j ∧ j < 0 + ((sNum d k : Nat) : Int) → 0 ≤ D1 (11 + k) j := fun j hj => by
    rw [e1 (11 + k) j (by omega)]
    exact (hF j (by omega)).1
  refine ⟨inv_drop (D1 := D1) (T := 0) (st := 2) H hk hB1 (by omega) (by omega) (fun o i a b => e1 o i a) ?_ ?_ ?_ ?_ ?_ (fun m hm => absurd hm (by omega)), rOK_ok (by show 0 ≤ (sEnd d k).2.2 + 1000000 ∧ _; omega)⟩
  · intro o i ho a b
    rw [hd4, zup_n (by omega)]
    exact sDrop_n hk5 _ _ _ (fun j hj => ⟨hx j hj, Or.inr (by have := hx j hj; omega)⟩)
  · rw [hd4, zup_s]
  · intro c i hc hi
    rw [hd4, zup_n (by omega), sDrop_n hk5 _ _ _ (fun j hj => ⟨hx j hj, Or.inl hi⟩)]
    exact e1 _ i (by omega)
  · intro c hc
    rw [hd4, zup_n (by omega), ← e1 (16 + c) 6 (by omega)]
    exact sDrop_m hk5 _ _ _ hx
  · intro c hc hj
    rw [hd4, zup_n (by omega), ← e1 (16 + c) 6 (by omega)]
    refine sDrop_n hk5 _ _ _ (fun j hj2 => ⟨hx j hj2, Or.inr ?_⟩)
    have := hj j (by omega)
    rw [e1 (11 + k) j (by omega)]
    omega
end
section
/-! MAKING: a world that grows: n cells at the addresses α 0 .. α (n-1), with the contents ε 0 .. ε (n-1) -/
abbrev fws (n : Nat) (α : Nat → Nat) (ε : Nat → va_E) : va_W := (List.range n).map (fun k => (α k, ε k))
theorem fws_at {n : Nat} {α : Nat → Nat} {ε : Nat → va_E} {k : Nat} (h : k < n) : (fws n α ε)[k]? = some (α k, ε k) := by
  simp only [fws, List.getElem?_map, List.getElem?_range h, Option.map_some]
theorem fws_q {n : Nat} {α : Nat → Nat} {ε : Nat → va_E} {k : Nat} {q : Nat × va_E} (h : (fws n α ε)[k]? = some q) : k < n ∧ q = (α k, ε k) := by
  by_cases hk : k < n
  · rw [fws_at hk] at h
    exact ⟨hk, (Option.some.inj h).symm⟩
  · simp [fws, List.getElem?_eq_none (l := List.range n) (by simpa using hk)] at h
theorem fws_n {n : Nat} {α : Nat → Nat} {ε : Nat → va_E} {k : Nat} (h : ¬ k < n) : (fws n α ε)[k]? = none := by
  simp [fws, List.getElem?_eq_none (l := List.range n) (by simpa using h)]
theorem fws_cg {n : Nat} {α α' : Nat → Nat} {ε ε' : Nat → va_E} (h : ∀ k, k < n → α k = α' k ∧ ε k = ε' k) : fws n α ε = fws n α' ε' := by
  apply List.ext_getElem?
  intro k
  by_cases hk : k < n
  · rw [fws_at hk, fws_at hk, (h k hk).1, (h k hk).2]
  · rw [fws_n hk, fws_n hk]
theorem fws_set {n : Nat} {α : Nat → Nat} {ε : Nat → va_E} {k : Nat} (h : k < n) {x : va_E} : (fws n α ε).set k (α k, x) = fws n α (va_up ε k x) := by
  apply List.ext_getElem?
  intro j
  rw [List.getElem?_set]
  by_cases hj : k = j
  · subst hj
    rw [if_pos rfl, if_pos (by simpa [fws] using h), fws_at h]
    simp [va_up]
  · rw [if_neg hj]
    by_cases hk : j < n
    · rw [fws_at hk, fws_at hk]
      simp [va_up, Ne.symm hj]
    · rw [fws_n hk, fws_n hk]
theorem fws_push {n : Nat} {α : Nat → Nat} {ε : Nat → va_E} {q : Nat} {x : va_E} : fws n α ε ++ [(q, x)] = fws (n + 1) (va_up α n q) (va_up ε n x) := by
  apply List.ext_getElem?
  intro j
  have hl : (fws n α ε).length = n := by simp [fws]
  by_cases hj : j < n
  · rw [List.getElem?_append_left (by rw [hl]; exact hj), fws_at hj, fws_at (by omega)]
    have : ¬ j = n := by omega
    simp [va_up, this]
  · rw [List.getElem?_append_right (by rw [hl]; omega), hl]
    by_cases hn : j = n
    · subst hn
      rw [fws_at (by omega)]
      simp [va_up]
    · rw [fws_n (by omega)]
      have : 1 ≤ j - n := by omega
      rw [List.getElem?_eq_none (by simpa using this)]
/-- what is known of the tables: the classes, the array classes, the nest's links, the arrays of objects -/
def yK (G : va_G) (ca : Nat → ClassId) (U : State) : Prop := va_K G zcl (zty ca) U ∧ zN U ∧ va_AO RX6 U ∧ va_AO RX0 U ∧ va_AO RX2 U
theorem yK.warm {G : va_G} {ca : Nat → ClassId} {s U : State} (hW : s.WarmedH U.vm) (h : yK G ca s) : yK G ca U := ⟨va_K.moved hW.alike h.1, h.2.1.warm hW, h.2.2.1.moved hW.alike, h.2.2.2.1.moved hW.alike, h.2.2.2.2.moved hW.alike⟩
theorem yK.same {G : va_G} {ca : Nat → ClassId} {u U : State} (hvm : u.vm = U.vm) (h : yK G ca u) : yK G ca U := ⟨va_K.moved (by rw [hvm]; exact Vm.Alike.refl _) h.1, h.2.1.same hvm, h.2.2.1.moved (by rw [hvm]; exact Vm.Alike.refl _), h.2.2.2.1.moved (by rw [hvm]; exact Vm.Alike.refl _), h.2.2.2.2.moved (by rw [hvm]; exact Vm.Alike.refl _)⟩
def yH (G : va_G) (A : Nat → Prop) (n : Nat) (α : Nat → Nat) (ε : Nat → va_E) (H : Heap) : Prop := va_P G zcl (fws n α ε) H ∧ va_D A (fws n α ε)
theorem yH.cg {G : va_G} {A : Nat → Prop} {n : Nat} {α α' : Nat → Nat} {ε ε' : Nat → va_E} {H : Heap} (h : ∀ k, k < n → α k = α' k ∧ ε k = ε' k) (q : yH G A n α ε H) : yH G A n α' ε' H := by
  unfold yH at q ⊢
  rw [← fws_cg h]
  exact q
/-- the walk's judgement (cells and elements made so far), the heap at its beginning, the cells that may be written, how many locals -/
abbrev yG : Type := (Nat → Nat → zV) × Heap × (Nat → Prop) × Nat
def Y (Γ : yG) (G : va_G) (nc ns n : Nat) (α : Nat → Nat) (ε : Nat → va_E) (pc : Nat) (L : List (Nat × Value)) (st : List Value) : Prop :=
  ∀ (H : Heap) (locs : List Loc) (ls : Array Slot), yH G Γ.2.2.1 n α ε H → va_S Γ.2.2.1 Γ.2.1 H locs → zL ls Γ.2.2.2 L → Γ.1 nc ns H locs pc ls st
/-- a constructor's end: the object h0 and what it has made -/
def yQ (G : va_G) (A : Nat → Prop) (h0 n' : Nat) (E : (Nat → Nat) → Nat → va_E) : Array Value → State → Outcome → State → Prop := fun _ st oc t => (∃ α' : Nat → Nat, oc = .returned none ∧ α' 0 = h0 ∧ yH G A n' α' (E α') t.heap) ∧ va_F A st t
def yC (Γ : yG) (G : va_G) (ca : Nat → ClassId) (own : String) (cc : ByteArray) (nL fr lo mc ms h0 n' : Nat) (E : (Nat → Nat) → Nat → va_E) : Prop :=
  ∃ (p : Program) (l : Launch) (e : Env) (R : Room) (s : State) (m : MethodId) (args : Array Value) (below : List Frame) (meth : Method) (c : Code),
    (Γ.1 = fun nc ns H locs pc ls st => W p l e R s m args below meth c H locs nc ns (MQ below (yQ G Γ.2.2.1 h0 n' E) args s mc ms Γ.2.2.1) (F0 m pc ls st)) ∧ Γ.2.1 = s.heap ∧ Γ.2.2.2 = nL ∧ p.tables.exec = Jvm.exec ∧ c.code = cc ∧ c.maxLocals = nL ∧ s.vm.findClass own = some m.cls ∧ (∀ w ∈ AL, w.before args s = true) ∧ yK G ca s ∧ meth.sig.returnType = none ∧ meth.locks = false ∧ fr ≤ R.frames ∧ lo ≤ R.locals ∧ mc ≤ R.cells ∧ ms ≤ R.slots ∧ (∀ q : Nat, s.heap.size ≤ q → Γ.2.2.1 q) ∧ meth.name = "<init>"
/-- a constructor's contract -/
def yMet (l : Launch) (G : va_G) (ca : Nat → ClassId) (y : MethodName) (cc : ByteArray) (nL fr lo mc ms h0 : Nat) (x0 : va_E) (n' : Nat) (E : (Nat → Nat) → Nat → va_E) : Prop :=
  ∀ sz : Nat, Met l y (.code y cc nL none :: AL) { frames := fr, cells := mc, slots := ms, locals := lo } (va_Pc [.ref h0] (fun U => U.heap.size = sz ∧ yK G ca U ∧ va_P G zcl [(h0, x0)] U.heap)) (yQ G (va_A [(h0, x0)] sz) h0 n' E) mc ms (va_A [(h0, x0)] sz)
theorem va_D1 {h0 sz : Nat} {x0 : va_E} : va_D (va_A [(h0, x0)] sz) [(h0, x0)] := by
  refine ⟨fun i j p q hi hj _ => ?_, fun k q hk => va_A.in hk⟩
  have h1 := (List.getElem?_eq_some_iff.mp hi).1
  have h2 := (List.getElem?_eq_some_iff.mp hj).1
  simp at h1 h2
  omega
theorem yMet_of {l : Launch} {G : va_G} {ca : Nat → ClassId} {y : MethodName} {cc : ByteArray} {nL fr lo mc ms h0 : Nat} {x0 : va_E} {n' : Nat} {E : (Nat → Nat) → Nat → va_E} (hy : plainName y.cls = true) (hyn : y.name = "<init>") (hn : 1 ≤ nL)
    (body : ∀ Γ : yG, yC Γ G ca y.cls cc nL fr lo mc ms h0 n' E → Y Γ G 0 0 1 (fun _ => h0) (fun _ => x0) 0 [(0, .ref h0)] []) : yMet l G ca y cc nL fr lo mc ms h0 x0 n' E := by
  intro sz
  refine Met.ofW (cc := cc) (maxL := nL) (ret := none) hy rfl ?_
  intro p e s m args below meth c s₁ B hml hv
  obtain ⟨rfl, hsz, hK, hP⟩ := hv
  subst hsz
  have hts := atoms_spec (ws := .code y cc nL none :: AL) B.pre
  have hl := lv_entry [.ref h0] (n := nL) hn
  rw [lg_entry_eq]
  exact body (fun nc ns H locs pc ls st => W p l e _ s m ([.ref h0] : List Value).toArray below meth c H locs nc ns (MQ below (yQ G (va_A [(h0, x0)] s.heap.size) h0 n' E) ([.ref h0] : List Value).toArray s mc ms (va_A [(h0, x0)] s.heap.size)) (F0 m pc ls st), s.heap, va_A [(h0, x0)] s.heap.size, nL)
    ⟨p, l, e, _, s, m, ([.ref h0] : List Value).toArray, below, meth, c, rfl, rfl, rfl, B.exec, B.bytes, hml, findClass_of_methodNamed B.named, fun w h => hts w (List.mem_cons_of_mem _ h), hK, B.returns, B.notSynchronized, Nat.le_refl _, Nat.le_refl _, Nat.le_refl _, Nat.le_refl _, fun q h => Or.inr h, by rw [(name_of_methodNamed B.named B.method).1, hyn]⟩
    s.heap [] _ ⟨hP, va_D1⟩ va_S.rf (zL.of hl)
section YR
variable {Γ : yG} {G : va_G} {ca : Nat → ClassId} {own : String} {cc : ByteArray} {nL fr lo mc ms h0 n' : Nat} {E : (Nat → Nat) → Nat → va_E} {nc ns n κ : Nat} {α : Nat → Nat} {ε : Nat → va_E} {pc : Nat} {L : List (Nat × Value)} {st : List Value}

theorem y_aload_n (h : yC Γ G ca own cc nL fr lo mc ms h0 n' E) {k : Fin 4} {x : Nat} (hdg : decode cc pc = .ok (.aload_n k, 1)) (hl0 : zlk L k = some (.ref x)) (kk : Y Γ G nc ns κ α ε (pc + 1) L (.ref x :: st)) : Y Γ G nc ns κ α ε pc L st := by
  obtain ⟨p, l, e, R, s, m, args, below, meth, c, hV, hH0, hnl, hx, hb, hml, hown, hts, hK, hr, hlk, hfr, hlo, hmc, hms, hAz, hin9⟩ := h
  intro H locs ls hH hS hl
  rw [hV]
  have K := kk H locs ls hH hS hl
  rw [hV] at K
  refine lv_aload_n hx hb hdg rfl (hl.2.2 _ _ hl0) ?_
  exact K

theorem y_iload_n (h : yC Γ G ca own cc nL fr lo mc ms h0 n' E) {k : Fin 4} {x : Int32} (hdg : decode cc pc = .ok (.iload_n k, 1)) (hl0 : zlk L k = some (.int x)) (kk : Y Γ G nc ns κ α ε (pc + 1) L (.int x :: st)) : Y Γ G nc ns κ α ε pc L st := by
  obtain ⟨p, l, e, R, s, m, args, below, meth, c, hV, hH0, hnl, hx, hb, hml, hown, hts, hK, hr, hlk, hfr, hlo, hmc, hms, hAz, hin9⟩ := h
  intro H locs ls hH hS hl
  rw [hV]
  have K := kk H locs ls hH hS hl
  rw [hV] at K
  refine lv_iload_n hx hb hdg rfl (hl.2.2 _ _ hl0) ?_
  exact K

theorem y_istore_n (h : yC Γ G ca own cc nL fr lo mc ms h0 n' E) {k : Fin 4} {x : Int32} (hdg : decode cc pc = .ok (.istore_n k, 1)) (hn : (k : Nat) < nL) (hc : zcat L (k : Nat) = true) (kk : Y Γ G nc ns κ α ε (pc + 1) (((k : Nat), .int x) :: L) st) : Y Γ G nc ns κ α ε pc L (.int x :: st) := by
  obtain ⟨p, l, e, R, s, m, args, below, meth, c, hV, hH0, hnl, hx, hb, hml, hown, hts, hK, hr, hlk, hfr, hlo, hmc, hms, hAz, hin9⟩ := h
  intro H locs ls hH hS hl
  rw [hV]
  refine lv_istore_n hx hb hdg rfl hl.has (by omega) rfl (fun ls9 h9 => ?_)
  have K := kk H locs ls9 hH hS (zL.st hc h9)
  rw [hV] at K
  exact K

theorem y_iconst (h : yC Γ G ca own cc nL fr lo mc ms h0 n' E) {n : Int} (hdg : decode cc pc = .ok (.iconst n, 1)) (kk : Y Γ G nc ns κ α ε (pc + 1) L (.int (iZ n) :: st)) : Y Γ G nc ns κ α ε pc L st := by
  obtain ⟨p, l, e, R, s, m, args, below, meth, c, hV, hH0, hnl, hx, hb, hml, hown, hts, hK, hr, hlk, hfr, hlo, hmc, hms, hAz, hin9⟩ := h
  intro H locs ls hH hS hl
  rw [hV]
  have K := kk H locs ls hH hS hl
  rw [hV] at K
  refine lv_iconst hx hb hdg rfl ?_
  exact K

theorem y_bipush (h : yC Γ G ca own cc nL fr lo mc ms h0 n' E) {n : Int} (hdg : decode cc pc = .ok (.bipush n, 2)) (hv : (Int8.ofInt n).toInt32 = iZ n) (kk : Y Γ G nc ns κ α ε (pc + 2) L (.int (iZ n) :: st)) : Y Γ G nc ns κ α ε pc L st := by
  obtain ⟨p, l, e, R, s, m, args, below, meth, c, hV, hH0, hnl, hx, hb, hml, hown, hts, hK, hr, hlk, hfr, hlo, hmc, hms, hAz, hin9⟩ := h
  intro H locs ls hH hS hl
  rw [hV]
  have K := kk H locs ls hH hS hl
  rw [hV] at K
  refine lv_bipush hx hb hdg hv ?_
  exact K

theorem y_sipush (h : yC Γ G ca own cc nL fr lo mc ms h0 n' E) {n : Int} (hdg : decode cc pc = .ok (.sipush n, 3)) (hv : (Int16.ofInt n).toInt32 = iZ n) (kk : Y Γ G nc ns κ α ε (pc + 3) L (.int (iZ n) :: st)) : Y Γ G nc ns κ α ε pc L st := by
  obtain ⟨p, l, e, R, s, m, args, below, meth, c, hV, hH0, hnl, hx, hb, hml, hown, hts, hK, hr, hlk, hfr, hlo, hmc, hms, hAz, hin9⟩ := h
  intro H locs ls hH hS hl
  rw [hV]
  have K := kk H locs ls hH hS hl
  rw [hV] at K
  refine lv_sipush hx hb hdg hv ?_
  exact K

theorem y_iadd (h : yC Γ G ca own cc nL fr lo mc ms h0 n' E) {a b : Int} (hdg : decode cc pc = .ok (.iadd, 1)) (kk : Y Γ G nc ns κ α ε (pc + 1) L (.int (iZ (a + b)) :: st)) : Y Γ G nc ns κ α ε pc L (.int (iZ b) :: .int (iZ a) :: st) := by
  obtain ⟨p, l, e, R, s, m, args, below, meth, c, hV, hH0, hnl, hx, hb, hml, hown, hts, hK, hr, hlk, hfr, hlo, hmc, hms, hAz, hin9⟩ := h
  intro H locs ls hH hS hl
  rw [hV]
  have K := kk H locs ls hH hS hl
  rw [hV] at K
  refine lv_iadd hx hb hdg ?_
  rw [iZ_add]
  exact K

theorem y_imul (h : yC Γ G ca own cc nL fr lo mc ms h0 n' E) {a b : Int} (hdg : decode cc pc = .ok (.imul, 1)) (kk : Y Γ G nc ns κ α ε (pc + 1) L (.int (iZ (a * b)) :: st)) : Y Γ G nc ns κ α ε pc L (.int (iZ b) :: .int (iZ a) :: st) := by
  obtain ⟨p, l, e, R, s, m, args, below, meth, c, hV, hH0, hnl, hx, hb, hml, hown, hts, hK, hr, hlk, hfr, hlo, hmc, hms, hAz, hin9⟩ := h
  intro H locs ls hH hS hl
  rw [hV]
  have K := kk H locs ls hH hS hl
  rw [hV] at K
  refine lv_imul hx hb hdg ?_
  rw [iZ_mul]
  exact K

theorem y_irem (h : yC Γ G ca own cc nL fr lo mc ms h0 n' E) {a b : Int} (hdg : decode cc pc = .ok (.irem, 1)) (ha : 0 ≤ a ∧ a ≤ 2147483647) (hb0 : 0 < b ∧ b ≤ 2147483647) (kk : Y Γ G nc ns κ α ε (pc + 1) L (.int (iZ (a % b)) :: st)) : Y Γ G nc ns κ α ε pc L (.int (iZ b) :: .int (iZ a) :: st) := by
  obtain ⟨p, l, e, R, s, m, args, below, meth, c, hV, hH0, hnl, hx, hb, hml, hown, hts, hK, hr, hlk, hfr, hlo, hmc, hms, hAz, hin9⟩ := h
  intro H locs ls hH hS hl
  rw [hV]
  have K := kk H locs ls hH hS hl
  rw [hV] at K
  refine lv_irem hx hb hdg (fun q => ?_) ?_
  · have := (iZ_eq (a := b) (b := 0) ⟨by omega, hb0.2⟩ ⟨by omega, by omega⟩).mp q
    omega
  · rw [iZ_div ha hb0, iZ_mul, iZ_sub, show a - a / b * b = a % b by rw [Int.emod_def, Int.mul_comm]]
    exact K

theorem y_dup (h : yC Γ G ca own cc nL fr lo mc ms h0 n' E) {v : Value} (hdg : decode cc pc = .ok (.dup, 1)) (hv : v.category = 1) (kk : Y Γ G nc ns κ α ε (pc + 1) L (v :: v :: st)) : Y Γ G nc ns κ α ε pc L (v :: st) := by
  obtain ⟨p, l, e, R, s, m, args, below, meth, c, hV, hH0, hnl, hx, hb, hml, hown, hts, hK, hr, hlk, hfr, hlo, hmc, hms, hAz, hin9⟩ := h
  intro H locs ls hH hS hl
  rw [hV]
  have K := kk H locs ls hH hS hl
  rw [hV] at K
  refine lv_dup hx hb hdg hv ?_
  exact K

theorem y_goto (h : yC Γ G ca own cc nL fr lo mc ms h0 n' E) {off : Int} (tgt : Nat) (hdg : decode cc pc = .ok (.goto off, 3)) (ht : (pc : Int) + off = (tgt : Int)) (kk : Y Γ G nc ns κ α ε tgt L st) : Y Γ G nc ns κ α ε pc L st := by
  obtain ⟨p, l, e, R, s, m, args, below, meth, c, hV, hH0, hnl, hx, hb, hml, hown, hts, hK, hr, hlk, hfr, hlo, hmc, hms, hAz, hin9⟩ := h
  intro H locs ls hH hS hl
  rw [hV]
  have K := kk H locs ls hH hS hl
  rw [hV] at K
  refine lv_goto hx hb hdg ht ?_
  exact K

theorem y_icmp_ge (h : yC Γ G ca own cc nL fr lo mc ms h0 n' E) {a b off : Int} (tgt : Nat) (hdg : decode cc pc = .ok (.if_icmp .ge off, 3)) (ht : (pc : Int) + off = (tgt : Int)) (ha : -2147483648 ≤ a ∧ a ≤ 2147483647) (hb1 : -2147483648 ≤ b ∧ b ≤ 2147483647) (kt : b ≤ a → Y Γ G nc ns κ α ε tgt L st) (kf : ¬ (b ≤ a) → Y Γ G nc ns κ α ε (pc + 3) L st) : Y Γ G nc ns κ α ε pc L (.int (iZ b) :: .int (iZ a) :: st) := by
  obtain ⟨p, l, e, R, s, m, args, below, meth, c, hV, hH0, hnl, hx, hb, hml, hown, hts, hK, hr, hlk, hfr, hlo, hmc, hms, hAz, hin9⟩ := h
  intro H locs ls hH hS hl
  rw [hV]
  have KT := fun q => kt q H locs ls hH hS hl
  have KF := fun q => kf q H locs ls hH hS hl
  rw [hV] at KT KF
  exact lv_icmp_ge hx hb hdg ht (fun q => KT ((iZ_le hb1 ha).mp q)) (fun q => KF (fun z => q ((iZ_le hb1 ha).mpr z)))

theorem y_iinc (h : yC Γ G ca own cc nL fr lo mc ms h0 n' E) {k : Nat} {n x : Int} (hdg : decode cc pc = .ok (.iinc k n, 3)) (hl0 : zlk L k = some (.int (iZ x))) (hn : k < nL) (hc : zcat L k = true) (kk : Y Γ G nc ns κ α ε (pc + 3) ((k, .int (iZ (x + n))) :: L) st) : Y Γ G nc ns κ α ε pc L st := by
  obtain ⟨p, l, e, R, s, m, args, below, meth, c, hV, hH0, hnl, hx, hb, hml, hown, hts, hK, hr, hlk, hfr, hlo, hmc, hms, hAz, hin9⟩ := h
  intro H locs ls hH hS hl
  rw [hV]
  obtain ⟨j, hj⟩ := List.getElem?_of_mem (zdd_mem (q := (k, .int (iZ x))) |>.mpr hl0)
  refine lv_iinc hx hb hdg hl.has hj (iZ_add x n) (by omega) rfl (fun ls9 h9 => ?_)
  have K := kk H locs ls9 hH hS (zL.st hc h9)
  rw [hV] at K
  exact K

theorem y_weak {L' : List (Nat × Value)} (hs : zsub L' L) (kk : Y Γ G nc ns n α ε pc L' st) : Y Γ G nc ns n α ε pc L st := fun H locs ls hH hS hl => kk H locs ls hH hS ⟨hl.1, hl.2.1, fun k v hk => hl.2.2 k v (zsub_lk hs hk)⟩
theorem y_top {a b : Int} (e : a = b) (kk : Y Γ G nc ns n α ε pc L (.int (iZ b) :: st)) : Y Γ G nc ns n α ε pc L (.int (iZ a) :: st) := e ▸ kk
/-- the world under other names -/
theorem y_cg {α' : Nat → Nat} {ε' : Nat → va_E} (h : ∀ k, k < n → α k = α' k ∧ ε k = ε' k) (kk : Y Γ G nc ns n α' ε' pc L st) : Y Γ G nc ns n α ε pc L st := fun H locs ls hH hS hl => kk H locs ls (hH.cg h) hS hl
theorem y_obj (h : yC Γ G ca own cc nL fr lo mc ms h0 n' E) {idx : Nat} (hlink : Cond.methodLink own idx objectInit ∈ AL) {a : Nat} (hdg : decode cc pc = .ok (.invokespecial idx, 3)) (hfr1 : 1 ≤ fr) (hlo1 : (st.map fun v => v.category).sum + 12 ≤ lo) (kk : Y Γ G nc ns n α ε (pc + 3) L st) : Y Γ G nc ns n α ε pc L (.ref a :: st) := by
  obtain ⟨p, l, e, R, s, m, args, below, meth, c, hV, hH0, hnl, hx, hb, hml, hown, hts, hK, hr, hlk, hfr, hlo, hmc, hms, hAz, hin9⟩ := h
  intro H locs ls hH hS hl
  rw [hV]
  have K := kk H locs ls hH hS hl
  rw [hV] at K
  exact W.objInit hx hb hown (hts _ hlink) (hts _ qI_O_init) (hts _ qC_O_init) rfl (by show ls.size = _; rw [hl.1, hnl, hml]) rfl hdg (Nat.le_trans hfr1 hfr) (by show 2 * 0 + _ + 12 ≤ _; omega) K
theorem y_new (h : yC Γ G ca own cc nL fr lo mc ms h0 n' E) {ci N index : Nat} {C : String} {T : u_T} (hin : ∀ w ∈ u_ws C T N, w ∈ AL) (hc : zcl[ci]? = some (C, T, N)) (ty0 : Nat → FieldType) (hty : ∀ k, k < N → parseFieldDescriptor (T k).2.2.1 = some (ty0 k)) (hlinkK : Cond.classLink own index C ∈ AL) (hinst : Cond.instantiable C N ∈ AL) (hini : Cond.initialized C ∈ AL) {fs : List Value} (hfs : ∀ j, j < N → defaultValue (ty0 j) = vp_V fs j) (hdg : decode cc pc = .ok (.new index, 3)) (hcells : nc + 1 ≤ mc) (hslots : ns + N ≤ ms) (kk : ∀ q : Nat, Y Γ G (nc + 1) (ns + N) (n + 1) (va_up α n q) (va_up ε n (.inr (ci, fs))) (pc + 3) L (.ref q :: st)) : Y Γ G nc ns n α ε pc L st := by
  obtain ⟨p, l, e, R, s, m, args, below, meth, c, hV, hH0, hnl, hx, hb, hml, hown, hts, hK, hr, hlk, hfr, hlo, hmc, hms, hAz, hin9⟩ := h
  intro H locs ls hH hS hl
  have K := fun q H locs hH hS => kk q H locs ls hH hS hl
  rw [hV] at K ⊢
  refine va_new hx hb hts hin ty0 hty hown (hts _ hlinkK) (hts _ hinst) (hts _ hini) hK.1 hH.1 hH.2 hS (fun q h => hAz q (by rw [← hH0]; exact h)) hc hfs (Nat.le_trans hcells hmc) (Nat.le_trans hslots hms) hdg (fun q H1 hP hD hS1 => ?_)
  rw [fws_push] at hP hD
  exact K q H1 locs ⟨hP, hD⟩ hS1
theorem y_newi (h : yC Γ G ca own cc nL fr lo mc ms h0 n' E) {z : Int} {len : Nat} (hz : z = (len : Int)) (hlen : len ≤ 2000) (hdg : decode cc pc = .ok (.newarray .int, 2)) (hcells : nc + 1 ≤ mc) (hslots : ns + len ≤ ms) (kk : ∀ q : Nat, Y Γ G (nc + 1) (ns + len) (n + 1) (va_up α n q) (va_up ε n (.inl (ca 0, len, .inl (fun _ => iZ 0)))) (pc + 2) L (.ref q :: st)) : Y Γ G nc ns n α ε pc L (.int (iZ z) :: st) := by
  obtain ⟨p, l, e, R, s, m, args, below, meth, c, hV, hH0, hnl, hx, hb, hml, hown, hts, hK, hr, hlk, hfr, hlo, hmc, hms, hAz, hin9⟩ := h
  intro H locs ls hH hS hl
  have K := fun q H locs hH hS => kk q H locs ls hH hS hl
  rw [hV] at K ⊢
  subst hz
  refine va_newa (a0 := (len, .inl (fun _ => iZ 0))) hx hb (atype := .int) (hts _ qA_int) (ty := .int) rfl hK.1 hH.1 hH.2 hS (fun q h => hAz q (by rw [← hH0]; exact h)) (fun _ => rfl) (nI_pos (by omega)) (by rw [iZ_clamp (by omega) (by omega)]; omega) (by show len * 4 ≤ _; omega) (Nat.le_trans hcells hmc) (Nat.le_trans hslots hms) hdg (fun q cA H1 hK1 hP hD hS1 => ?_)
  have e9 : cA = ca 0 := by
    have h1 : s.vm.findClass ("[" ++ FieldType.int.toString) = some cA := (hK1.2 5 (cA, .int) rfl).2
    have h2 : s.vm.findClass ("[" ++ FieldType.int.toString) = some (ca 0) := (hK.1.2 0 (ca 0, .int) rfl).2
    exact Option.some.inj (h1.symm.trans h2)
  subst e9
  rw [fws_push] at hP hD
  exact K q H1 locs ⟨hP, hD⟩ hS1
theorem y_newc (h : yC Γ G ca own cc nL fr lo mc ms h0 n' E) {z : Int} {len : Nat} (hz : z = (len : Int)) (hlen : len ≤ 2000) (hdg : decode cc pc = .ok (.newarray .char, 2)) (hcells : nc + 1 ≤ mc) (hslots : ns + len ≤ ms) (kk : ∀ q : Nat, Y Γ G (nc + 1) (ns + len) (n + 1) (va_up α n q) (va_up ε n (.inl (ca 1, len, .inl (fun _ => iZ 0)))) (pc + 2) L (.ref q :: st)) : Y Γ G nc ns n α ε pc L (.int (iZ z) :: st) := by
  obtain ⟨p, l, e, R, s, m, args, below, meth, c, hV, hH0, hnl, hx, hb, hml, hown, hts, hK, hr, hlk, hfr, hlo, hmc, hms, hAz, hin9⟩ := h
  intro H locs ls hH hS hl
  have K := fun q H locs hH hS => kk q H locs ls hH hS hl
  rw [hV] at K ⊢
  subst hz
  refine va_newa (a0 := (len, .inl (fun _ => iZ 0))) hx hb (atype := .char) (hts _ qA_char) (ty := .char) rfl hK.1 hH.1 hH.2 hS (fun q h => hAz q (by rw [← hH0]; exact h)) (fun _ => rfl) (nI_pos (by omega)) (by rw [iZ_clamp (by omega) (by omega)]; omega) (by show len * 2 ≤ _; omega) (Nat.le_trans hcells hmc) (Nat.le_trans hslots hms) hdg (fun q cA H1 hK1 hP hD hS1 => ?_)
  have e9 : cA = ca 1 := by
    have h1 : s.vm.findClass ("[" ++ FieldType.char.toString) = some cA := (hK1.2 5 (cA, .char) rfl).2
    have h2 : s.vm.findClass ("[" ++ FieldType.char.toString) = some (ca 1) := (hK.1.2 1 (ca 1, .char) rfl).2
    exact Option.some.inj (h1.symm.trans h2)
  subst e9
  rw [fws_push] at hP hD
  exact K q H1 locs ⟨hP, hD⟩ hS1
theorem y_newr (h : yC Γ G ca own cc nL fr lo mc ms h0 n' E) {z : Int} {len index : Nat} (t0 : Nat) {C : String} (ht : (zty ca)[t0]? = some (ca t0, .object C)) (hover : ∀ U : State, yK G ca U → va_AO C U) (hlinkK : Cond.classLink own index C ∈ AL) (hz : z = (len : Int)) (hlen : len ≤ 2000) (hdg : decode cc pc = .ok (.anewarray index, 3)) (hcells : nc + 1 ≤ mc) (hslots : ns + len ≤ ms) (kk : ∀ q : Nat, Y Γ G (nc + 1) (ns + len) (n + 1) (va_up α n q) (va_up ε n (.inl (ca t0, len, .inr (.inr (.inr (.inr (fun _ => none))))))) (pc + 3) L (.ref q :: st)) : Y Γ G nc ns n α ε pc L (.int (iZ z) :: st) := by
  obtain ⟨p, l, e, R, s, m, args, below, meth, c, hV, hH0, hnl, hx, hb, hml, hown, hts, hK, hr, hlk, hfr, hlo, hmc, hms, hAz, hin9⟩ := h
  intro H locs ls hH hS hl
  have K := fun q H locs hH hS => kk q H locs ls hH hS hl
  rw [hV] at K ⊢
  subst hz
  refine va_newq hx hb hown (hts _ hlinkK) (hover s hK) hK.1 hH.1 hH.2 hS (fun q h => hAz q (by rw [← hH0]; exact h)) (nI_pos (by omega)) (N' := len) (by rw [iZ_clamp (by omega) (by omega)]; omega) (by omega) (Nat.le_trans hcells hmc) (Nat.le_trans hslots hms) hdg (fun q cA H1 hK1 hP hD hS1 => ?_)
  have e9 : cA = ca t0 := by
    obtain ⟨-, kA, comp, f2, f3, f4, h1⟩ := hK1.2 5 (cA, .object C) rfl
    obtain ⟨-, kA', comp', f2', f3', f4', h2⟩ := hK.1.2 t0 (ca t0, .object C) ht
    exact Option.some.inj (h1.symm.trans h2)
  subst e9
  rw [fws_push] at hP hD
  exact K q H1 locs ⟨hP, hD⟩ hS1
theorem y_get (h : yC Γ G ca own cc nL fr lo mc ms h0 n' E) {ci N index : Nat} {C ref : String} {T : u_T} (hin : ∀ w ∈ u_ws C T N, w ∈ AL) (hc : zcl[ci]? = some (C, T, N)) (k : Nat) (hk : k < N) (hlink : Cond.fieldLink own index ref (T k).2.1 (T k).2.2.1 ∈ AL) (href : ref = (T k).1) (hdg : decode cc pc = .ok (.getfield index, 3)) (q0 : Nat) (hq0 : q0 < n) {a : Nat} (ha : α q0 = a) {fs : List Value} (he : ε q0 = .inr (ci, fs)) {v : Value} (hv : fs[k]? = some v) (kk : Y Γ G nc ns n α ε (pc + 3) L (v :: st)) : Y Γ G nc ns n α ε pc L (.ref a :: st) := by
  obtain ⟨p, l, e, R, s, m, args, below, meth, c, hV, hH0, hnl, hx, hb, hml, hown, hts, hK, hr, hlk, hfr, hlo, hmc, hms, hAz, hin9⟩ := h
  intro H locs ls hH hS hl
  have K := kk H locs ls hH hS hl
  rw [hV] at K ⊢
  subst href
  subst ha
  exact va_get hx hb hts hin hown hK.1 hH.1 q0 (by rw [fws_at hq0, he]) hc k hk (hts _ hlink) (fun _ h9 => h9) hv hdg K
/-- a final field of the object that is made gets a reference -/
theorem y_put (h : yC Γ G ca own cc nL fr lo mc ms h0 n' E) {ci N index : Nat} {C ref : String} {T : u_T} (hin : ∀ w ∈ u_ws C T N, w ∈ AL) (hc : zcl[ci]? = some (C, T, N)) (ty0 : Nat → FieldType) (hty : ∀ k, k < N → parseFieldDescriptor (T k).2.2.1 = some (ty0 k)) (hnm : ∀ a, a < N → ∀ b, b < N → a ≠ b → (T a).2.1 ≠ (T b).2.1) (k : Nat) (hk : k < N) (hlink : Cond.fieldLink own index ref (T k).2.1 (T k).2.2.1 ∈ AL) (href : ref = (T k).1) (hfin : (T k).2.2.2 = true) (hdecl : (T k).1 = own) (hdg : decode cc pc = .ok (.putfield index, 3)) (q0 : Nat) (hq0 : q0 < n) {a v : Nat} (ha : α q0 = a) {fs : List Value} (he : ε q0 = .inr (ci, fs)) (hn9 : narrow (ty0 k) (.ref v) = .ref v) (hf9 : fits (ty0 k) (.ref v) = true) (hl9 : k < fs.length) (kk : Y Γ G nc ns n α (va_up ε q0 (.inr (ci, fs.set k (.ref v)))) (pc + 3) L st) : Y Γ G nc ns n α ε pc L (.ref v :: .ref a :: st) := by
  obtain ⟨p, l, e, R, s, m, args, below, meth, c, hV, hH0, hnl, hx, hb, hml, hown, hts, hK, hr, hlk, hfr, hlo, hmc, hms, hAz, hin9⟩ := h
  intro H locs ls hH hS hl
  have K := fun H locs hH hS => kk H locs ls hH hS hl
  rw [hV] at K ⊢
  subst href
  subst ha
  refine va_putF hx hb hts hin ty0 hty hnm hown hK.1 hH.1 hH.2 hS q0 (by rw [fws_at hq0, he]) hc k hk (hts _ hlink) (fun _ h9 => h9) hfin hin9 hdecl (ty := ty0 k) (hty k hk) hn9 hf9 hl9 hdg (fun H1 locs1 hP hD hS1 => ?_)
  rw [fws_set hq0] at hP hD
  exact K H1 locs1 ⟨hP, hD⟩ hS1
theorem y_iast (h : yC Γ G ca own cc nL fr lo mc ms h0 n' E) (hdg : decode cc pc = .ok (.iastore, 1)) (q0 : Nat) (hq0 : q0 < n) {a len : Nat} (ha : α q0 = a) {f : Nat → Int32} (he : ε q0 = .inl (ca 0, len, .inl f)) {i z : Int} (hi0 : 0 ≤ i) (hi : i < (len : Int)) (hn9 : len ≤ 2000) (kk : Y Γ G nc ns n α (va_up ε q0 (.inl (ca 0, len, .inl (upd f i.toNat (iZ z))))) (pc + 1) L st) : Y Γ G nc ns n α ε pc L (.int (iZ z) :: .int (iZ i) :: .ref a :: st) := by
  obtain ⟨p, l, e, R, s, m, args, below, meth, c, hV, hH0, hnl, hx, hb, hml, hown, hts, hK, hr, hlk, hfr, hlo, hmc, hms, hAz, hin9⟩ := h
  intro H locs ls hH hS hl
  have K := fun H locs hH hS => kk H locs ls hH hS hl
  rw [hV] at K ⊢
  subst ha
  refine va_iast hx hb hK.1 hH.1 hH.2 hS q0 0 (by rw [fws_at hq0, he]) rfl (iZ_in hi0 hi (by omega)) hdg (fun H1 locs1 hP hD hS1 => ?_)
  rw [fws_set hq0, iZ_clamp hi0 (by omega)] at hP hD
  exact K H1 locs1 ⟨hP, hD⟩ hS1
theorem y_aast (h : yC Γ G ca own cc nL fr lo mc ms h0 n' E) (hdg : decode cc pc = .ok (.aastore, 1)) (t0 : Nat) {r0 : vw_C} {ci : Nat} (ht : (zty ca)[t0]? = some (ca t0, .object r0.1)) (hci : zcl[ci]? = some r0) (q0 : Nat) (hq0 : q0 < n) {a v len : Nat} (ha : α q0 = a) {f : Nat → Option Nat} (he : ε q0 = .inl (ca t0, len, .inr (.inr (.inr (.inr f))))) (q1 : Nat) (hq1 : q1 < n) (hv : α q1 = v) {fs : List Value} (he2 : ε q1 = .inr (ci, fs)) {i : Int} (hi0 : 0 ≤ i) (hi : i < (len : Int)) (hn9 : len ≤ 2000) (kk : Y Γ G nc ns n α (va_up ε q0 (.inl (ca t0, len, .inr (.inr (.inr (.inr (va_up f i.toNat (some v)))))))) (pc + 1) L st) : Y Γ G nc ns n α ε pc L (.ref v :: .int (iZ i) :: .ref a :: st) := by
  obtain ⟨p, l, e, R, s, m, args, below, meth, c, hV, hH0, hnl, hx, hb, hml, hown, hts, hK, hr, hlk, hfr, hlo, hmc, hms, hAz, hin9⟩ := h
  intro H locs ls hH hS hl
  have K := fun H locs hH hS => kk H locs ls hH hS hl
  rw [hV] at K ⊢
  subst ha
  subst hv
  refine va_astq hx hb hK.1 hH.1 hH.2 hS q0 t0 q1 ci (by rw [fws_at hq0, he]) ht (by rw [fws_at hq1, he2]) hci (iZ_in hi0 hi (by omega)) hdg (fun H1 locs1 hP hD hS1 => ?_)
  rw [fws_set hq0, iZ_clamp hi0 (by omega)] at hP hD
  exact K H1 locs1 ⟨hP, hD⟩ hS1
theorem y_ret (h : yC Γ G ca own cc nL fr lo mc ms h0 n' E) (hnc : nc ≤ mc) (hns : ns ≤ ms) (hnn : n = n') (ha : α 0 = h0) (hE : ∀ k, k < n → ε k = E α k) (hdg : decode cc pc = .ok (.return_, 1)) : Y Γ G nc ns n α ε pc L [] := by
  obtain ⟨p, l, e, R, s, m, args, below, meth, c, hV, hH0, hnl, hx, hb, hml, hown, hts, hK, hr, hlk, hfr, hlo, hmc, hms, hAz, hin9⟩ := h
  intro H locs ls hH hS hl
  rw [hV]
  rw [hH0] at hS
  subst hnn
  refine W.widen (k := mc) (n := ms) hnc hns ?_
  exact W.vret hx hb hr (fun t ht hW => ⟨⟨α, rfl, ha, by rw [ht]; exact hH.cg (fun k hk => ⟨rfl, hE k hk⟩)⟩, hS.F ht⟩) hS.2.2 hdg hlk

end YR
/-! a constructor called on the object that was just made -/
section YCALL
variable {p : Program} {l : Launch} {e : Env} {R : Room} {s : State} {m : MethodId} {args : Array Value} {below : List Frame} {meth : Method} {c : Code} {H : Heap} {locs : List Loc} {Q : State → Prop}
variable {pc : Nat} {ls : Array Slot} {rest st0 : List Value} {a : Array Value} {A A1 : Nat → Prop} {H0 : Heap} {G : va_G} {nc ns mc1 ms1 h1 n2 : Nat} {E2 : (Nat → Nat) → Nat → va_E}
theorem yc_go (hr : va_Run p l e R s m args below meth c H locs nc ns mc1 ms1 (F0 m pc ls st0) rest (yQ G A1 h1 n2 E2 a) A1) (hS : va_S A H0 H locs) (hA : ∀ q, A1 q → A q)
    (kk : ∀ (α2 : Nat → Nat) (H1 : Heap) (locs1 : List Loc), α2 0 = h1 → yH G A1 n2 α2 (E2 α2) H1 → H.size ≤ H1.size → (∀ q : Nat, q < H.size → ¬ A1 q → H1[q]? = H[q]?) → va_S A H0 H1 locs1 → W p l e R s m args below meth c H1 locs1 (nc + mc1) (ns + ms1) Q (F0 m (pc + 3) ls rest)) : W p l e R s m args below meth c H locs nc ns Q (F0 m pc ls st0) := by
  intro T hT X
  obtain ⟨v, st₀, t, T', L, h0, X', hL, e1, e2, ⟨⟨α2, hv, hp, hb⟩, hz, hk⟩, st⟩ := hr T hT X
  cases hv
  rw [h0] at hz hk
  obtain ⟨t2, a1, b1⟩ := kk α2 T'.heap (locs ++ L) hp (by rw [e1]; exact hb) (by rw [e1]; exact hz) (fun q h1 h2 => by rw [e1]; exact hk q h1 h2)
    ⟨Nat.le_trans hS.1 (by rw [e1]; exact hz), fun q h1 h2 => by rw [e1, hk q (Nat.lt_of_lt_of_le h1 hS.1) (fun z => h2 (hA q z))]; exact hS.2.1 q h1 h2, fun q hq => by
      rcases List.mem_append.mp hq with h | h
      · exact hS.2.2 q h
      · exact hA _ (hL q h)⟩ T' rfl X'
  exact ⟨t2, st t2 a1, b1⟩
theorem va_A1 {h1 sz q : Nat} {x : va_E} (h : va_A [(h1, x)] sz q) : q = h1 ∨ sz ≤ q := by
  rcases h with ⟨k, e, hk⟩ | h
  · have h2 := (List.getElem?_eq_some_iff.mp hk).1
    simp at h2
    subst h2
    cases hk
    exact Or.inl rfl
  · exact Or.inr h
theorem y_join {n : Nat} {α α2 : Nat → Nat} {ε ε2 : Nat → va_E} {H1 : Heap} (hH : yH G A (n + 1) α ε H) (hA : ∀ q, va_A [(α n, ε n)] H.size q → A q) (h2 : yH G (va_A [(α n, ε n)] H.size) n2 α2 ε2 H1) (hk : ∀ q : Nat, q < H.size → ¬ va_A [(α n, ε n)] H.size q → H1[q]? = H[q]?) :
    yH G A (n + n2) (fun k => if k < n then α k else α2 (k - n)) (fun k => if k < n then ε k else ε2 (k - n)) H1 := by
  have old : ∀ k, k < n → α k < H.size ∧ ¬ va_A [(α n, ε n)] H.size (α k) := by
    intro k hk1
    have l1 := (hH.1 k _ (fws_at (by omega))).lt
    refine ⟨l1, fun z => ?_⟩
    rcases va_A1 z with q | q
    · have := hH.2.1 k n _ _ (fws_at (by omega)) (fws_at (by omega)) q
      omega
    · exact absurd (show α k < H.size from l1) (by omega)
  constructor
  · intro k q hq
    obtain ⟨hk1, rfl⟩ := fws_q hq
    by_cases hk2 : k < n
    · simp only [hk2, if_true]
      exact (hH.1 k _ (fws_at (by omega))).kept (hk _ (old k hk2).1 (old k hk2).2)
    · simp only [hk2, if_false]
      exact h2.1 (k - n) _ (fws_at (by omega))
  · constructor
    · intro i j x y hi hj hxy
      obtain ⟨hi1, rfl⟩ := fws_q hi
      obtain ⟨hj1, rfl⟩ := fws_q hj
      by_cases hi2 : i < n <;> by_cases hj2 : j < n
      · simp only [hi2, hj2, if_true] at hxy
        exact hH.2.1 i j _ _ (fws_at (by omega)) (fws_at (by omega)) hxy
      · simp only [hi2, hj2, if_true, if_false] at hxy
        have := h2.2.2 (j - n) _ (fws_at (by omega))
        exact absurd (by rw [hxy]; exact this) (old i hi2).2
      · simp only [hi2, hj2, if_true, if_false] at hxy
        have := h2.2.2 (i - n) _ (fws_at (by omega))
        exact absurd (by rw [← hxy]; exact this) (old j hj2).2
      · simp only [hi2, hj2, if_false] at hxy
        have := h2.2.1 (i - n) (j - n) _ _ (fws_at (by omega)) (fws_at (by omega)) hxy
        omega
    · intro k q hq
      obtain ⟨hk1, rfl⟩ := fws_q hq
      by_cases hk2 : k < n
      · simp only [hk2, if_true]
        exact hH.2.2 k _ (fws_at (by omega))
      · simp only [hk2, if_false]
        exact hA _ (h2.2.2 (k - n) _ (fws_at (by omega)))
end YCALL
section YCR
variable {Γ : yG} {G : va_G} {ca : Nat → ClassId} {own : String} {cc : ByteArray} {nL fr lo mc ms h0 n' : Nat} {E : (Nat → Nat) → Nat → va_E} {nc ns n : Nat} {α : Nat → Nat} {ε : Nat → va_E} {pc : Nat} {L : List (Nat × Value)} {rest : List Value}
variable {y : MethodName} {bytes : ByteArray} {maxL fr1 lo1 mc1 ms1 index n2 : Nat} {E2 : (Nat → Nat) → Nat → va_E}
theorem y_free {A : Nat → Prop} {H0 H : Heap} {locs : List Loc} (hH : yH G A (n + 1) α ε H) (hS : va_S A H0 H locs) (hA : ∀ q : Nat, H0.size ≤ q → A q) : ∀ q, va_A [(α n, ε n)] H.size q → A q := by
  intro q hq
  rcases va_A1 hq with h | h
  · rw [h]; exact hH.2.2 n _ (fws_at (by omega))
  · exact hA q (Nat.le_trans hS.1 h)
theorem y_P1 {A : Nat → Prop} {H : Heap} (hH : yH G A (n + 1) α ε H) : va_P G zcl [(α n, ε n)] H := by
  intro k q hq
  have h2 := (List.getElem?_eq_some_iff.mp hq).1
  simp at h2
  subst h2
  cases hq
  exact hH.1 n _ (fws_at (by omega))
theorem al_g1 {cw : Cond} (h5 : cw ∈ AL) : GoodIn AL (cw :: AL) := by
  intro w hw
  have hm : w ∈ AL := by
    rcases List.mem_cons.mp hw with h | h
    · subst h; exact h5
    · exact h
  exact ⟨hm, good_of_word (List.all_eq_true.mp al_good w hm)⟩
/-- the constructor of the last cell, by a link of its own class -/
theorem y_call (h : yC Γ G ca own cc nL fr lo mc ms h0 n' E) {x : Nat} (hxa : α n = x) (hdg : decode cc pc = .ok (.invokespecial index, 3)) (hM : ∀ l, yMet l G ca y bytes maxL fr1 lo1 mc1 ms1 (α n) (ε n) n2 E2) (hyn : y.name = "<init>") (h1 : Cond.methodLink own index y ∈ AL) (h2 : Cond.instanceMethod y ∈ AL) (h4 : Cond.initialized y.cls ∈ AL) (h5 : Cond.code y bytes maxL none ∈ AL) (hd : y.cls ≠ "java/lang/invoke/MethodHandle" ∧ y.cls ≠ "java/lang/invoke/VarHandle" ∧ (parseMethodDescriptor y.desc).map (fun d => d.parameters.length) = some 0) (hfr1 : fr1 + 1 ≤ fr) (hlo1 : 8 + (maxL + 11) + lo1 ≤ lo) (hcells : nc + mc1 ≤ mc) (hslots : ns + ms1 ≤ ms) (hcat : (rest.map fun v => v.category).sum ≤ 8)
    (kk : ∀ α2 : Nat → Nat, α2 0 = α n → Y Γ G (nc + mc1) (ns + ms1) (n + n2) (fun k => if k < n then α k else α2 (k - n)) (fun k => if k < n then ε k else E2 α2 (k - n)) (pc + 3) L rest) : Y Γ G nc ns (n + 1) α ε pc L (.ref x :: rest) := by
  obtain ⟨p, l, e, R, s, m, args, below, meth, c, hV, hH0, hnl, hx, hb, hml, hown, hts, hK, hr, hlk, hfr, hlo, hmc, hms, hAz, hin9⟩ := h
  intro H locs ls hH hS hl
  have K := fun α2 hα H locs hH hS => kk α2 hα H locs ls hH hS hl
  rw [hV] at K ⊢
  subst hxa
  have hF := y_free hH hS (fun q h => hAz q (by rw [← hH0]; exact h))
  refine yc_go (va_runI (As := []) (rest := rest) ⟨hx, hb, hml, hown, hts⟩ (hM l H.size) (cwI 0 hts (al_g1 h5) rfl rfl rfl (hts _ h4) (hts _ h1) (hts _ h2) hyn hd ⟨Nat.le_trans hfr1 hfr, Nat.le_trans hlo1 hlo⟩) ⟨fun a U g mk q => ⟨q.1, q.2.1, q.2.2.1.same (u := U) (U := U.calling g mk a) rfl, q.2.2.2⟩, fun U hU hW => ⟨rfl, by rw [hU], hK.warm hW, by rw [hU]; exact y_P1 hH⟩⟩ rfl rfl (by show ls.size = _; rw [hl.1, hnl]) rfl (lv_room hcat) hdg ⟨Nat.le_trans hcells hmc, Nat.le_trans hslots hms⟩) hS hF (fun α2 H1 locs1 hα h2 hz hk hS1 => ?_)
  exact K α2 hα H1 locs1 (y_join hH hF h2 hk) hS1
/-- the private constructor of the last cell's class, a mate of the nest -/
theorem y_callN (h : yC Γ G ca own cc nL fr lo mc ms h0 n' E) {x : Nat} (hxa : α n = x) (hdg : decode cc pc = .ok (.invokespecial index, 3)) (hM : ∀ l, yMet l G ca y bytes maxL fr1 lo1 mc1 ms1 (α n) (ε n) n2 E2) (hyn : y.name = "<init>") (h1 : Cond.methodLinkNest own index y RX7 ∈ zNst) (h2 : Cond.instanceMethod y ∈ AL) (h4 : Cond.initialized y.cls ∈ AL) (h5 : Cond.code y bytes maxL none ∈ AL) (hd : y.cls ≠ "java/lang/invoke/MethodHandle" ∧ y.cls ≠ "java/lang/invoke/VarHandle" ∧ (parseMethodDescriptor y.desc).map (fun d => d.parameters.length) = some 0) (hfr1 : fr1 + 1 ≤ fr) (hlo1 : 8 + (maxL + 11) + lo1 ≤ lo) (hcells : nc + mc1 ≤ mc) (hslots : ns + ms1 ≤ ms) (hcat : (rest.map fun v => v.category).sum ≤ 8)
    (kk : ∀ α2 : Nat → Nat, α2 0 = α n → Y Γ G (nc + mc1) (ns + ms1) (n + n2) (fun k => if k < n then α k else α2 (k - n)) (fun k => if k < n then ε k else E2 α2 (k - n)) (pc + 3) L rest) : Y Γ G nc ns (n + 1) α ε pc L (.ref x :: rest) := by
  obtain ⟨p, l, e, R, s, m, args, below, meth, c, hV, hH0, hnl, hx, hb, hml, hown, hts, hK, hr, hlk, hfr, hlo, hmc, hms, hAz, hin9⟩ := h
  intro H locs ls hH hS hl
  have K := fun α2 hα H locs hH hS => kk α2 hα H locs ls hH hS hl
  rw [hV] at K ⊢
  subst hxa
  have hF := y_free hH hS (fun q h => hAz q (by rw [← hH0]; exact h))
  refine yc_go (va_runIN (As := []) (rest := rest) ⟨hx, hb, hml, hown, hts⟩ (hM l H.size) ⟨va_cnB 0 hts (al_g1 h5) rfl rfl rfl (hK.2.1 _ h1) (hts _ h4) hd ⟨Nat.le_trans hfr1 hfr, Nat.le_trans hlo1 hlo⟩, hyn, hts _ h2⟩ ⟨fun a U g mk q => ⟨q.1, q.2.1, q.2.2.1.same (u := U) (U := U.calling g mk a) rfl, q.2.2.2⟩, fun U hU hW => ⟨rfl, by rw [hU], hK.warm hW, by rw [hU]; exact y_P1 hH⟩⟩ rfl rfl (by show ls.size = _; rw [hl.1, hnl]) rfl (lv_room hcat) hdg ⟨Nat.le_trans hcells hmc, Nat.le_trans hslots hms⟩) hS hF (fun α2 H1 locs1 hα h2 hz hk hS1 => ?_)
  exact K α2 hα H1 locs1 (y_join hH hF h2 hk) hS1
end YCR
end
section
/-! THE CONSTRUCTORS -/
theorem va_up_s {T : Type} {f : Nat → T} {k : Nat} {v : T} : va_up f k v k = v := if_pos rfl
theorem va_up_n {T : Type} {f : Nat → T} {k j : Nat} {v : T} (h : j ≠ k) : va_up f k v j = f j := if_neg h
theorem y_eq {Γ : yG} {G : va_G} {nc ns n nc' ns' n' : Nat} {α : Nat → Nat} {ε : Nat → va_E} {pc : Nat} {L : List (Nat × Value)} {st : List Value} (h1 : nc = nc') (h2 : ns = ns') (h3 : n = n') (kk : Y Γ G nc' ns' n' α ε pc L st) : Y Γ G nc ns n α ε pc L st := by
  subst h1
  subst h2
  subst h3
  exact kk
abbrev vz : Value := .int (iZ 0)
abbrev vr (f : Nat → Option Nat) : (Nat → Int32) ⊕ (Nat → Int64) ⊕ (Nat → UInt32) ⊕ (Nat → UInt64) ⊕ (Nat → Option Nat) := .inr (.inr (.inr (.inr f)))
def eSh (q : Value) : va_E := .inr (6, [vz, vz, vz, vz, vz, vz, vz, q])
def eCg : va_E := .inr (0, [vz, vz, vz, vz, vz, vz, vz, vz])
def eCo : va_E := .inr (1, [vz, vz, vz, vz, vz, vz, vz, vz])
def eFx (ca : Nat → ClassId) : va_E := .inl (ca 0, 10, .inl (fun _ => iZ 0))
def eShip (ca : Nat → ClassId) (α : Nat → Nat) : Nat → va_E := fun k => if k = 0 then eSh (.ref (α 1)) else eFx ca
def eScr (ca : Nat → ClassId) (α : Nat → Nat) : Nat → va_E := fun k => if k = 0 then .inr (5, [.ref (α 1), vz, vz, .ref (α 2), vz]) else if k = 1 then .inl (ca 1, 60, .inl (fun _ => iZ 0)) else .inl (ca 0, 6, .inl (fun _ => iZ 0))
def eFd : va_E := .inr (3, [vz, vz, vz, vz])
/-- a desk that is being made: P ports stand, S ships, C cargoes are there -/
def eDesk (ca : Nat → ClassId) (P S C : Nat) (α : Nat → Nat) : Nat → va_E := fun k =>
  if k = 0 then .inr (2, [.ref (α 1), .ref (α 2), .ref (α 3), .ref (α 4), vz, vz, vz, vz, .ref (α 5), vz, vz, vz])
  else if k = 1 then .inl (ca 0, 8, .inl (fun j => iZ (if j < P then 10 * (j : Int) else 0)))
  else if k = 2 then .inl (ca 0, 8, .inl (fun j => iZ (if j < P then 5 * ((j : Int) % 3) else 0)))
  else if k = 3 then .inl (ca 2, 5, vr (fun j => if j < S then some (α (6 + 2 * j)) else none))
  else if k = 4 then .inl (ca 3, 10, vr (fun j => if j < C then some (α (16 + j)) else none))
  else if k = 5 then eCo
  else if k < 16 then (if k % 2 = 0 then eSh (.ref (α (k + 1))) else eFx ca)
  else eCg
theorem eDesk_0 {ca : Nat → ClassId} {P S C : Nat} {α : Nat → Nat} : eDesk ca P S C α 0 = .inr (2, [.ref (α 1), .ref (α 2), .ref (α 3), .ref (α 4), vz, vz, vz, vz, .ref (α 5), vz, vz, vz]) := rfl
theorem eDesk_1 {ca : Nat → ClassId} {P S C : Nat} {α : Nat → Nat} : eDesk ca P S C α 1 = .inl (ca 0, 8, .inl (fun j => iZ (if j < P then 10 * (j : Int) else 0))) := rfl
theorem eDesk_2 {ca : Nat → ClassId} {P S C : Nat} {α : Nat → Nat} : eDesk ca P S C α 2 = .inl (ca 0, 8, .inl (fun j => iZ (if j < P then 5 * ((j : Int) % 3) else 0))) := rfl
theorem eDesk_3 {ca : Nat → ClassId} {P S C : Nat} {α : Nat → Nat} : eDesk ca P S C α 3 = .inl (ca 2, 5, vr (fun j => if j < S then some (α (6 + 2 * j)) else none)) := rfl
theorem eDesk_4 {ca : Nat → ClassId} {P S C : Nat} {α : Nat → Nat} : eDesk ca P S C α 4 = .inl (ca 3, 10, vr (fun j => if j < C then some (α (16 + j)) else none)) := rfl
theorem eDesk_5 {ca : Nat → ClassId} {P S C : Nat} {α : Nat → Nat} : eDesk ca P S C α 5 = eCo := rfl
theorem eDesk_e {ca : Nat → ClassId} {P S C : Nat} {α : Nat → Nat} {k : Nat} (h : 6 ≤ k ∧ k < 16) (h2 : k % 2 = 0) : eDesk ca P S C α k = eSh (.ref (α (k + 1))) := by
  unfold eDesk
  rw [if_neg (by omega), if_neg (by omega), if_neg (by omega), if_neg (by omega), if_neg (by omega), if_neg (by omega), if_pos h.2, if_pos h2]
theorem eDesk_f {ca : Nat → ClassId} {P S C : Nat} {α : Nat → Nat} {k : Nat} (h : 6 ≤ k ∧ k < 16) (h2 : k % 2 = 1) : eDesk ca P S C α k = eFx ca := by
  unfold eDesk
  rw [if_neg (by omega), if_neg (by omega), if_neg (by omega), if_neg (by omega), if_neg (by omega), if_neg (by omega), if_pos h.2, if_neg (by omega)]
theorem eDesk_c {ca : Nat → ClassId} {P S C : Nat} {α : Nat → Nat} {k : Nat} (h : 16 ≤ k) : eDesk ca P S C α k = eCg := by
  unfold eDesk
  rw [if_neg (by omega), if_neg (by omega), if_neg (by omega), if_neg (by omega), if_neg (by omega), if_neg (by omega), if_neg (by omega)]
theorem lt6 {k : Nat} (h : k < 6) : k = 0 ∨ k = 1 ∨ k = 2 ∨ k = 3 ∨ k = 4 ∨ k = 5 := by omega
/-- a desk's cells speak of the desk's own addresses alone -/
theorem eDesk_cg {ca : Nat → ClassId} {P S C N k : Nat} {α α' : Nat → Nat} (hS : 6 + 2 * S ≤ N) (hC : C = 0 ∨ 16 + C ≤ N) (hN : 6 ≤ N) (h : ∀ j, j < N → α j = α' j) (hk : k < N) (hodd : 6 ≤ k ∧ k < 16 ∧ k % 2 = 0 → k + 1 < N) : eDesk ca P S C α k = eDesk ca P S C α' k := by
  by_cases q : k < 6
  · rcases lt6 q with rfl | rfl | rfl | rfl | rfl | rfl
    · rw [eDesk_0, eDesk_0, h 1 (by omega), h 2 (by omega), h 3 (by omega), h 4 (by omega), h 5 (by omega)]
    · rfl
    · rfl
    · rw [eDesk_3, eDesk_3]
      have : (fun j => if j < S then some (α (6 + 2 * j)) else none) = (fun j => if j < S then some (α' (6 + 2 * j)) else none) := by
        funext j
        by_cases z : j < S
        · rw [if_pos z, if_pos z, h _ (by omega)]
        · rw [if_neg z, if_neg z]
      rw [this]
    · rw [eDesk_4, eDesk_4]
      have : (fun j => if j < C then some (α (16 + j)) else none) = (fun j => if j < C then some (α' (16 + j)) else none) := by
        funext j
        by_cases z : j < C
        · rw [if_pos z, if_pos z, h _ (by omega)]
        · rw [if_neg z, if_neg z]
      rw [this]
    · rfl
  · by_cases q2 : k < 16
    · by_cases q3 : k % 2 = 0
      · rw [eDesk_e (by omega) q3, eDesk_e (by omega) q3, h _ (hodd (by omega))]
      · rw [eDesk_f (by omega) (by omega), eDesk_f (by omega) (by omega)]
    · rw [eDesk_c (by omega), eDesk_c (by omega)]

set_option maxHeartbeats 4000000 in
set_option maxRecDepth 100000 in
theorem m_X0_init (l : Launch) (G : va_G) (ca : Nat → ClassId) (h0 : Nat) (x0 : va_E) : yMet l G ca yX0_init cX0_init 1 1 12 0 0 h0 x0 1 (fun _ _ => x0) := by
  refine yMet_of (by decide) rfl (by decide) (fun Γ hC => ?_)
  refine y_aload_n hC dX0_init_0 rfl ?_
  refine y_obj hC qM_X0_1 dX0_init_1 (by decide) (by decide) ?_
  exact y_ret hC (by decide) (by decide) rfl rfl (fun k hk => rfl) dX0_init_4

set_option maxHeartbeats 4000000 in
set_option maxRecDepth 100000 in
theorem m_X1_init (l : Launch) (G : va_G) (ca : Nat → ClassId) (h0 : Nat) (x0 : va_E) : yMet l G ca yX1_init cX1_init 1 1 12 0 0 h0 x0 1 (fun _ _ => x0) := by
  refine yMet_of (by decide) rfl (by decide) (fun Γ hC => ?_)
  refine y_aload_n hC dX1_init_0 rfl ?_
  refine y_obj hC qM_X1_3 dX1_init_1 (by decide) (by decide) ?_
  exact y_ret hC (by decide) (by decide) rfl rfl (fun k hk => rfl) dX1_init_4

set_option maxHeartbeats 4000000 in
set_option maxRecDepth 100000 in
theorem m_X3_init (l : Launch) (G : va_G) (ca : Nat → ClassId) (h0 : Nat) (x0 : va_E) : yMet l G ca yX3_init cX3_init 1 1 12 0 0 h0 x0 1 (fun _ _ => x0) := by
  refine yMet_of (by decide) rfl (by decide) (fun Γ hC => ?_)
  refine y_aload_n hC dX3_init_0 rfl ?_
  refine y_obj hC qM_X3_1 dX3_init_1 (by decide) (by decide) ?_
  exact y_ret hC (by decide) (by decide) rfl rfl (fun k hk => rfl) dX3_init_4

set_option maxHeartbeats 4000000 in
set_option maxRecDepth 100000 in
/-- a ship: its object, its row of fixtures -/
theorem m_X6_init (l : Launch) (G : va_G) (ca : Nat → ClassId) (h0 : Nat) : yMet l G ca yX6_init cX6_init 1 1 12 1 10 h0 (eSh .null) 2 (eShip ca) := by
  refine yMet_of (by decide) rfl (by decide) (fun Γ hC => ?_)
  refine y_aload_n hC dX6_init_0 rfl ?_
  refine y_obj hC qM_X6_3 dX6_init_1 (by decide) (by decide) ?_
  refine y_aload_n hC dX6_init_4 rfl ?_
  refine y_bipush hC dX6_init_5 (by decide) ?_
  refine y_newi hC (len := 10) rfl (by decide) dX6_init_7 (by decide) (by decide) (fun q7 => ?_)
  refine y_put hC iA_X6 (ci := 6) (N := 8) rfl tyX6 tyX6_ok nmX6 7 (by decide) qF_X6_9 rfl rfl rfl dX6_init_9 0 (by decide) rfl rfl rfl rfl (Nat.le_of_ble_eq_true rfl) ?_
  refine y_ret hC (by decide) (by decide) rfl rfl (fun k hk => ?_) dX6_init_12
  rcases (show k = 0 ∨ k = 1 by omega) with rfl | rfl
  · rfl
  · rfl

set_option maxHeartbeats 4000000 in
set_option maxRecDepth 100000 in
/-- the script: its object, characters, numbers -/
theorem m_X5_init (l : Launch) (G : va_G) (ca : Nat → ClassId) (h0 : Nat) : yMet l G ca yX5_init cX5_init 1 1 12 2 66 h0 (.inr (5, [.null, vz, vz, .null, vz])) 3 (eScr ca) := by
  refine yMet_of (by decide) rfl (by decide) (fun Γ hC => ?_)
  refine y_aload_n hC dX5_init_0 rfl ?_
  refine y_obj hC qM_X5_3 dX5_init_1 (by decide) (by decide) ?_
  refine y_aload_n hC dX5_init_4 rfl ?_
  refine y_bipush hC dX5_init_5 (by decide) ?_
  refine y_newc hC (len := 60) rfl (by decide) dX5_init_7 (by decide) (by decide) (fun q7 => ?_)
  refine y_put hC iA_X5 (ci := 5) (N := 5) rfl tyX5 tyX5_ok nmX5 0 (by decide) qF_X5_9 rfl rfl rfl dX5_init_9 0 (by decide) rfl rfl rfl rfl (Nat.le_of_ble_eq_true rfl) ?_
  refine y_aload_n hC dX5_init_12 rfl ?_
  refine y_bipush hC dX5_init_13 (by decide) ?_
  refine y_newi hC (len := 6) rfl (by decide) dX5_init_15 (by decide) (by decide) (fun q15 => ?_)
  refine y_put hC iA_X5 (ci := 5) (N := 5) rfl tyX5 tyX5_ok nmX5 3 (by decide) qF_X5_15 rfl rfl rfl dX5_init_17 0 (by decide) rfl rfl rfl rfl (Nat.le_of_ble_eq_true rfl) ?_
  refine y_ret hC (by decide) (by decide) rfl rfl (fun k hk => ?_) dX5_init_20
  rcases (show k = 0 ∨ k = 1 ∨ k = 2 by omega) with rfl | rfl | rfl
  · rfl
  · rfl
  · rfl

set_option maxHeartbeats 4000000 in
set_option maxRecDepth 100000 in
/-- a desk: 26 cells -/
theorem m_X2_init (l : Launch) (G : va_G) (ca : Nat → ClassId) (h0 : Nat) : yMet l G ca yX2_init cX2_init 2 2 32 25 209 h0 (.inr (2, [.null, .null, .null, .null, vz, vz, vz, vz, .null, vz, vz, vz])) 26 (eDesk ca 8 5 10) := by
  refine yMet_of (by decide) rfl (by decide) (fun Γ hC => ?_)
  refine y_aload_n hC dX2_init_0 rfl ?_
  refine y_obj hC qM_X2_3 dX2_init_1 (by decide) (by decide) ?_
  refine y_aload_n hC dX2_init_4 rfl ?_
  refine y_bipush hC dX2_init_5 (by decide) ?_
  refine y_newi hC (len := 8) rfl (by decide) dX2_init_7 (by decide) (by decide) (fun q7 => ?_)
  refine y_put hC iA_X2 (ci := 2) (N := 12) rfl tyX2 tyX2_ok nmX2 0 (by decide) qF_X2_9 rfl rfl rfl dX2_init_9 0 (by decide) rfl rfl rfl rfl (Nat.le_of_ble_eq_true rfl) ?_
  refine y_aload_n hC dX2_init_12 rfl ?_
  refine y_bipush hC dX2_init_13 (by decide) ?_
  refine y_newi hC (len := 8) rfl (by decide) dX2_init_15 (by decide) (by decide) (fun q15 => ?_)
  refine y_put hC iA_X2 (ci := 2) (N := 12) rfl tyX2 tyX2_ok nmX2 1 (by decide) qF_X2_15 rfl rfl rfl dX2_init_17 0 (by decide) rfl rfl rfl rfl (Nat.le_of_ble_eq_true rfl) ?_
  refine y_aload_n hC dX2_init_20 rfl ?_
  refine y_iconst hC dX2_init_21 ?_
  refine y_newr hC 2 rfl (fun U h => h.2.2.1) qK_X2_18 (len := 5) rfl (by decide) dX2_init_22 (by decide) (by decide) (fun q22 => ?_)
  refine y_put hC iA_X2 (ci := 2) (N := 12) rfl tyX2 tyX2_ok nmX2 2 (by decide) qF_X2_20 rfl rfl rfl dX2_init_25 0 (by decide) rfl rfl rfl rfl (Nat.le_of_ble_eq_true rfl) ?_
  refine y_aload_n hC dX2_init_28 rfl ?_
  refine y_bipush hC dX2_init_29 (by decide) ?_
  refine y_newr hC 3 rfl (fun U h => h.2.2.2.1) qK_X2_24 (len := 10) rfl (by decide) dX2_init_31 (by decide) (by decide) (fun q31 => ?_)
  refine y_put hC iA_X2 (ci := 2) (N := 12) rfl tyX2 tyX2_ok nmX2 3 (by decide) qF_X2_26 rfl rfl rfl dX2_init_34 0 (by decide) rfl rfl rfl rfl (Nat.le_of_ble_eq_true rfl) ?_
  refine y_aload_n hC dX2_init_37 rfl ?_
  refine y_new hC iA_X1 (ci := 1) (N := 8) rfl tyX1 tyX1_ok qK_X2_30 qn_X1 qi_X1 (fs := [vz, vz, vz, vz, vz, vz, vz, vz]) (fun j hj => by rcases (show j = 0 ∨ j = 1 ∨ j = 2 ∨ j = 3 ∨ j = 4 ∨ j = 5 ∨ j = 6 ∨ j = 7 by omega) with rfl | rfl | rfl | rfl | rfl | rfl | rfl | rfl <;> rfl) dX2_init_38 (by decide) (by decide) (fun q38 => ?_)
  refine y_dup hC dX2_init_41 rfl ?_
  refine y_callN hC rfl dX2_init_42 (fun l => m_X1_init l G ca _ _) rfl (by decide +kernel) qI_X1_init qi_X1 qC_X1_init (by decide) (by decide) (by decide) (by decide) (by decide) (Nat.le_of_ble_eq_true rfl) (fun α2 hα2 => ?_)
  refine y_put hC iA_X2 (ci := 2) (N := 12) rfl tyX2 tyX2_ok nmX2 8 (by decide) qF_X2_33 rfl rfl rfl dX2_init_45 0 (by decide) rfl rfl rfl rfl (Nat.le_of_ble_eq_true rfl) ?_
  refine y_iconst hC dX2_init_48 ?_
  refine y_istore_n hC dX2_init_49 (by decide) rfl ?_
  -- the ports
  have cargoes : ∀ (r i : Nat), i + r = 10 → ∀ α : Nat → Nat, α 0 = h0 → Y Γ G (15 + i) (129 + 8 * i) (16 + i) α (eDesk ca 8 5 i α) 111 [(1, .int (iZ (i : Int))), (0, .ref h0)] [] := by
    intro r
    induction r with
    | zero =>
      intro i hi α hα
      refine y_iload_n hC dX2_init_111 rfl ?_
      refine y_bipush hC dX2_init_112 (by decide) ?_
      refine y_icmp_ge hC 136 dX2_init_114 (by decide) (by omega) (by omega) (fun c_1 => ?_) (fun c_1 => ?_)
      rotate_left
      · exfalso; omega
      obtain rfl : i = 10 := by omega
      exact y_ret hC (by decide) (by decide) rfl hα (fun k hk => rfl) dX2_init_136
    | succ r ih =>
      intro i hi α hα
      refine y_iload_n hC dX2_init_111 rfl ?_
      refine y_bipush hC dX2_init_112 (by decide) ?_
      refine y_icmp_ge hC 136 dX2_init_114 (by decide) (by omega) (by omega) (fun c_1 => ?_) (fun c_1 => ?_)
      · exfalso; omega
      refine y_aload_n hC dX2_init_117 rfl ?_
      refine y_get hC iA_X2 (ci := 2) (N := 12) rfl 3 (by decide) qF_X2_26 rfl dX2_init_118 0 (by omega) hα eDesk_0 rfl ?_
      refine y_iload_n hC dX2_init_121 rfl ?_
      refine y_new hC iA_X0 (ci := 0) (N := 8) rfl tyX0 tyX0_ok qK_X2_24 qn_X0 qi_X0 (fs := [vz, vz, vz, vz, vz, vz, vz, vz]) (fun j hj => by rcases (show j = 0 ∨ j = 1 ∨ j = 2 ∨ j = 3 ∨ j = 4 ∨ j = 5 ∨ j = 6 ∨ j = 7 by omega) with rfl | rfl | rfl | rfl | rfl | rfl | rfl | rfl <;> rfl) dX2_init_122 (by omega) (by omega) (fun q => ?_)
      refine y_dup hC dX2_init_125 rfl ?_
      refine y_callN hC va_up_s dX2_init_126 (fun l => m_X0_init l G ca _ _) rfl (by decide +kernel) qI_X0_init qi_X0 qC_X0_init (by decide) (by decide) (by decide) (by omega) (by omega) (by show 1 + (1 + (1 + 0)) ≤ 8; decide) (fun α2 hα2 => ?_)
      rw [va_up_s] at hα2
      obtain ⟨α3, hα3⟩ : ∃ α3 : Nat → Nat, α3 = fun k => if k < 16 + i then va_up α (16 + i) q k else α2 (k - (16 + i)) := ⟨_, rfl⟩
      have o3 : ∀ k, k < 16 + i → α3 k = α k := fun k hk => by rw [hα3]; show (if k < 16 + i then va_up α (16 + i) q k else _) = _; rw [if_pos hk, va_up_n (by omega)]
      have q3 : α3 (16 + i) = q := by rw [hα3]; show (if 16 + i < 16 + i then _ else α2 (16 + i - (16 + i))) = _; rw [if_neg (by omega), Nat.sub_self]; exact hα2
      refine y_cg (α' := α3) (ε' := fun k => if k < 16 + i then eDesk ca 8 5 i α k else eCg) (fun k hk => ⟨by rw [hα3], ?_⟩) ?_
      · by_cases z : k < 16 + i
        · simp only [z, if_true]
          rw [va_up_n (by omega)]
        · simp only [z, if_false]
          rw [va_up_s]
          rfl
      refine y_aast hC dX2_init_129 3 rfl (r0 := (RX0, TX0, 8)) (ci := 0) rfl 4 (by omega) (o3 4 (by omega)) (len := 10) (f := fun j => if j < i then some (α (16 + j)) else none) (by rw [if_pos (by omega)]; rfl) (16 + i) (by omega) q3 (fs := [vz, vz, vz, vz, vz, vz, vz, vz]) (by rw [if_neg (by omega)]; rfl) (by omega) (by omega) (by decide) ?_
      refine y_iinc hC dX2_init_130 rfl (by decide) rfl ?_
      refine y_goto hC 111 dX2_init_133 (by decide) ?_
      refine y_weak (L' := [(1, .int (iZ ((i : Int) + 1))), (0, .ref h0)]) ⟨rfl, rfl, trivial⟩ ?_
      refine y_cg (α' := α3) (ε' := eDesk ca 8 5 (i + 1) α3) (fun k hk => ⟨rfl, ?_⟩) ?_
      · by_cases z4 : k = 4
        · subst z4
          rw [va_up_s, eDesk_4]
          have : va_up (fun j => if j < i then some (α (16 + j)) else none) (i : Int).toNat (some q) = (fun j => if j < i + 1 then some (α3 (16 + j)) else none) := by
            funext j
            rw [Int.toNat_natCast]
            by_cases zj : j = i
            · rw [zj, va_up_s, if_pos (by omega), q3]
            · rw [va_up_n zj]
              by_cases zl : j < i
              · rw [if_pos zl, if_pos (by omega), o3 _ (by omega)]
              · rw [if_neg zl, if_neg (by omega)]
          rw [this]
        · rw [va_up_n z4]
          by_cases z : k < 16 + i
          · rw [if_pos z]
            have e1 : eDesk ca 8 5 i α k = eDesk ca 8 5 i α3 k := eDesk_cg (N := 16 + i) (by omega) (by omega) (by omega) (fun j hj => (o3 j hj).symm) z (by omega)
            rw [e1]
            unfold eDesk
            rw [if_neg (c := k = 4) z4, if_neg (c := k = 4) z4]
          · rw [if_neg z, eDesk_c (by omega)]
      exact y_eq (by omega) (by omega) (by omega) (ih (i + 1) (by omega) α3 ((o3 0 (by omega)).trans hα))
  have ships : ∀ (r i : Nat), i + r = 5 → ∀ α : Nat → Nat, α 0 = h0 → Y Γ G (5 + 2 * i) (39 + 18 * i) (6 + 2 * i) α (eDesk ca 8 i 0 α) 85 [(1, .int (iZ (i : Int))), (0, .ref h0)] [] := by
    intro r
    induction r with
    | zero =>
      intro i hi α hα
      refine y_iload_n hC dX2_init_85 rfl ?_
      refine y_iconst hC dX2_init_86 ?_
      refine y_icmp_ge hC 109 dX2_init_87 (by decide) (by omega) (by omega) (fun c_1 => ?_) (fun c_1 => ?_)
      rotate_left
      · exfalso; omega
      obtain rfl : i = 5 := by omega
      refine y_iconst hC dX2_init_109 ?_
      refine y_istore_n hC dX2_init_110 (by decide) rfl ?_
      refine y_weak (L' := [(1, .int (iZ ((0 : Nat) : Int))), (0, .ref h0)]) ⟨rfl, rfl, trivial⟩ ?_
      exact cargoes 10 0 (by decide) α hα
    | succ r ih =>
      intro i hi α hα
      refine y_iload_n hC dX2_init_85 rfl ?_
      refine y_iconst hC dX2_init_86 ?_
      refine y_icmp_ge hC 109 dX2_init_87 (by decide) (by omega) (by omega) (fun c_1 => ?_) (fun c_1 => ?_)
      · exfalso; omega
      refine y_aload_n hC dX2_init_90 rfl ?_
      refine y_get hC iA_X2 (ci := 2) (N := 12) rfl 2 (by decide) qF_X2_20 rfl dX2_init_91 0 (by omega) hα eDesk_0 rfl ?_
      refine y_iload_n hC dX2_init_94 rfl ?_
      refine y_new hC iA_X6 (ci := 6) (N := 8) rfl tyX6 tyX6_ok qK_X2_18 qn_X6 qi_X6 (fs := [vz, vz, vz, vz, vz, vz, vz, .null]) (fun j hj => by rcases (show j = 0 ∨ j = 1 ∨ j = 2 ∨ j = 3 ∨ j = 4 ∨ j = 5 ∨ j = 6 ∨ j = 7 by omega) with rfl | rfl | rfl | rfl | rfl | rfl | rfl | rfl <;> rfl) dX2_init_95 (by omega) (by omega) (fun q => ?_)
      refine y_dup hC dX2_init_98 rfl ?_
      refine y_callN hC va_up_s dX2_init_99 (E2 := eShip ca) (fun l => by rw [va_up_s (f := eDesk ca 8 i 0 α)]; exact m_X6_init l G ca _) rfl (by decide +kernel) qI_X6_init qi_X6 qC_X6_init (by decide) (by decide) (by decide) (by omega) (by omega) (by show 1 + (1 + (1 + 0)) ≤ 8; decide) (fun α2 hα2 => ?_)
      rw [va_up_s] at hα2
      obtain ⟨α3, hα3⟩ : ∃ α3 : Nat → Nat, α3 = fun k => if k < 6 + 2 * i then va_up α (6 + 2 * i) q k else α2 (k - (6 + 2 * i)) := ⟨_, rfl⟩
      have o3 : ∀ k, k < 6 + 2 * i → α3 k = α k := fun k hk => by rw [hα3]; show (if k < 6 + 2 * i then va_up α (6 + 2 * i) q k else _) = _; rw [if_pos hk, va_up_n (by omega)]
      have n3 : ∀ k, α3 (6 + 2 * i + k) = α2 k := fun k => by rw [hα3]; show (if 6 + 2 * i + k < 6 + 2 * i then _ else α2 (6 + 2 * i + k - (6 + 2 * i))) = _; rw [if_neg (by omega)]; congr 1; omega
      have q3 : α3 (6 + 2 * i) = q := (n3 0).trans hα2
      refine y_cg (α' := α3) (ε' := fun k => if k < 6 + 2 * i then eDesk ca 8 i 0 α k else if k = 6 + 2 * i then eSh (.ref (α3 (k + 1))) else eFx ca) (fun k hk => ⟨by rw [hα3], ?_⟩) ?_
      · by_cases z : k < 6 + 2 * i
        · simp only [z, if_true]
          rw [va_up_n (by omega)]
        · simp only [z, if_false]
          by_cases z2 : k = 6 + 2 * i
          · rw [if_pos z2, z2, Nat.sub_self, n3 1]
            rfl
          · rw [if_neg z2, show k - (6 + 2 * i) = 1 by omega]
            rfl
      refine y_aast hC dX2_init_102 2 rfl (r0 := (RX6, TX6, 8)) (ci := 6) rfl 3 (by omega) (o3 3 (by omega)) (len := 5) (f := fun j => if j < i then some (α (6 + 2 * j)) else none) (by rw [if_pos (by omega)]; rfl) (6 + 2 * i) (by omega) q3 (fs := [vz, vz, vz, vz, vz, vz, vz, .ref (α3 (6 + 2 * i + 1))]) (by rw [if_neg (by omega), if_pos rfl]; rfl) (by omega) (by omega) (by decide) ?_
      refine y_iinc hC dX2_init_103 rfl (by decide) rfl ?_
      refine y_goto hC 85 dX2_init_106 (by decide) ?_
      refine y_weak (L' := [(1, .int (iZ ((i : Int) + 1))), (0, .ref h0)]) ⟨rfl, rfl, trivial⟩ ?_
      refine y_cg (α' := α3) (ε' := eDesk ca 8 (i + 1) 0 α3) (fun k hk => ⟨rfl, ?_⟩) ?_
      · by_cases z3 : k = 3
        · subst z3
          rw [va_up_s, eDesk_3]
          have : va_up (fun j => if j < i then some (α (6 + 2 * j)) else none) (i : Int).toNat (some q) = (fun j => if j < i + 1 then some (α3 (6 + 2 * j)) else none) := by
            funext j
            rw [Int.toNat_natCast]
            by_cases zj : j = i
            · rw [zj, va_up_s, if_pos (by omega), q3]
            · rw [va_up_n zj]
              by_cases zl : j < i
              · rw [if_pos zl, if_pos (by omega), o3 _ (by omega)]
              · rw [if_neg zl, if_neg (by omega)]
          rw [this]
        · rw [va_up_n z3]
          by_cases z : k < 6 + 2 * i
          · rw [if_pos z]
            have e1 : eDesk ca 8 i 0 α k = eDesk ca 8 i 0 α3 k := eDesk_cg (N := 6 + 2 * i) (by omega) (by omega) (by omega) (fun j hj => (o3 j hj).symm) z (by omega)
            rw [e1]
            unfold eDesk
            rw [if_neg (c := k = 3) z3, if_neg (c := k = 3) z3]
          · rw [if_neg z]
            by_cases z2 : k = 6 + 2 * i
            · rw [if_pos z2, eDesk_e (by omega) (by omega)]
            · rw [if_neg z2, eDesk_f (by omega) (by omega)]
      exact y_eq (by omega) (by omega) (by omega) (ih (i + 1) (by omega) α3 ((o3 0 (by omega)).trans hα))
  have ports : ∀ (r i : Nat), i + r = 8 → ∀ α : Nat → Nat, α 0 = h0 → Y Γ G 5 39 6 α (eDesk ca i 0 0 α) 50 [(1, .int (iZ (i : Int))), (0, .ref h0)] [] := by
    intro r
    induction r with
    | zero =>
      intro i hi α hα
      refine y_iload_n hC dX2_init_50 rfl ?_
      refine y_bipush hC dX2_init_51 (by decide) ?_
      refine y_icmp_ge hC 83 dX2_init_53 (by decide) (by omega) (by omega) (fun c_1 => ?_) (fun c_1 => ?_)
      rotate_left
      · exfalso; omega
      obtain rfl : i = 8 := by omega
      refine y_iconst hC dX2_init_83 ?_
      refine y_istore_n hC dX2_init_84 (by decide) rfl ?_
      refine y_weak (L' := [(1, .int (iZ ((0 : Nat) : Int))), (0, .ref h0)]) ⟨rfl, rfl, trivial⟩ ?_
      exact ships 5 0 (by decide) α hα
    | succ r ih =>
      intro i hi α hα
      refine y_iload_n hC dX2_init_50 rfl ?_
      refine y_bipush hC dX2_init_51 (by decide) ?_
      refine y_icmp_ge hC 83 dX2_init_53 (by decide) (by omega) (by omega) (fun c_1 => ?_) (fun c_1 => ?_)
      · exfalso; omega
      refine y_aload_n hC dX2_init_56 rfl ?_
      refine y_get hC iA_X2 (ci := 2) (N := 12) rfl 0 (by decide) qF_X2_9 rfl dX2_init_57 0 (by omega) hα eDesk_0 rfl ?_
      refine y_iload_n hC dX2_init_60 rfl ?_
      refine y_bipush hC dX2_init_61 (by decide) ?_
      refine y_iload_n hC dX2_init_63 rfl ?_
      refine y_imul hC dX2_init_64 ?_
      refine y_iast hC dX2_init_65 1 (by decide) rfl eDesk_1 (by omega) (by omega) (by decide) ?_
      refine y_aload_n hC dX2_init_66 rfl ?_
      refine y_get hC iA_X2 (ci := 2) (N := 12) rfl 1 (by decide) qF_X2_15 rfl dX2_init_67 0 (by omega) hα ((va_up_n (by decide)).trans eDesk_0) rfl ?_
      refine y_iload_n hC dX2_init_70 rfl ?_
      refine y_iconst hC dX2_init_71 ?_
      refine y_iload_n hC dX2_init_72 rfl ?_
      refine y_iconst hC dX2_init_73 ?_
      refine y_irem hC dX2_init_74 (by omega) (by omega) ?_
      refine y_imul hC dX2_init_75 ?_
      refine y_iast hC dX2_init_76 2 (by decide) rfl ((va_up_n (by decide)).trans eDesk_2) (by omega) (by omega) (by decide) ?_
      refine y_iinc hC dX2_init_77 rfl (by decide) rfl ?_
      refine y_goto hC 50 dX2_init_80 (by decide) ?_
      refine y_weak (L' := [(1, .int (iZ ((i : Int) + 1))), (0, .ref h0)]) ⟨rfl, rfl, trivial⟩ ?_
      refine y_cg (α' := α) (ε' := eDesk ca (i + 1) 0 0 α) (fun k hk => ⟨rfl, ?_⟩) ?_
      · rcases lt6 hk with rfl | rfl | rfl | rfl | rfl | rfl
        · rw [va_up_n (by decide), va_up_n (by decide)]; rfl
        · rw [va_up_n (by decide), va_up_s, eDesk_1]
          have : upd (fun j : Nat => iZ (if j < i then 10 * (j : Int) else 0)) (i : Int).toNat (iZ (10 * (i : Int))) = (fun j : Nat => iZ (if j < i + 1 then 10 * (j : Int) else 0)) := by
            funext j
            rw [Int.toNat_natCast]
            unfold upd
            by_cases zj : j = i
            · rw [if_pos zj, zj, if_pos (by omega)]
            · rw [if_neg zj]
              dsimp only
              by_cases zl : j < i
              · rw [if_pos zl, if_pos (by omega)]
              · rw [if_neg zl, if_neg (by omega)]
          rw [this]
        · rw [va_up_s, eDesk_2]
          have : upd (fun j : Nat => iZ (if j < i then 5 * ((j : Int) % 3) else 0)) (i : Int).toNat (iZ (5 * ((i : Int) % 3))) = (fun j : Nat => iZ (if j < i + 1 then 5 * ((j : Int) % 3) else 0)) := by
            funext j
            rw [Int.toNat_natCast]
            unfold upd
            by_cases zj : j = i
            · rw [if_pos zj, zj, if_pos (by omega)]
            · rw [if_neg zj]
              dsimp only
              by_cases zl : j < i
              · rw [if_pos zl, if_pos (by omega)]
              · rw [if_neg zl, if_neg (by omega)]
          rw [this]
        · rw [va_up_n (by decide), va_up_n (by decide)]; rfl
        · rw [va_up_n (by decide), va_up_n (by decide)]; rfl
        · rw [va_up_n (by decide), va_up_n (by decide)]; rfl
      exact ih (i + 1) (by omega) α hα
  obtain ⟨α, hα⟩ : ∃ α : Nat → Nat, α = fun k => if k < 5 then va_up (va_up (va_up (va_up (va_up (fun _ => h0) 1 q7) 2 q15) 3 q22) 4 q31) 5 q38 k else α2 (k - 5) := ⟨_, rfl⟩
  have a5 : α2 0 = q38 := hα2
  refine y_weak (L' := [(1, .int (iZ ((0 : Nat) : Int))), (0, .ref h0)]) ⟨rfl, rfl, trivial⟩ ?_
  refine y_cg (α' := α) (ε' := eDesk ca 0 0 0 α) (fun k hk => ⟨by rw [hα], ?_⟩) (ports 8 0 (by decide) α (by rw [hα]; rfl))
  have z10 : (fun j : Nat => iZ (if j < 0 then 10 * (j : Int) else 0)) = fun _ => iZ 0 := by funext j; rw [if_neg (Nat.not_lt_zero j)]
  have z5 : (fun j : Nat => iZ (if j < 0 then 5 * ((j : Int) % 3) else 0)) = fun _ => iZ 0 := by funext j; rw [if_neg (Nat.not_lt_zero j)]
  have zs : (fun j : Nat => if j < 0 then some (α (6 + 2 * j)) else none) = fun _ => none := by funext j; rw [if_neg (Nat.not_lt_zero j)]
  have zc : (fun j : Nat => if j < 0 then some (α (16 + j)) else none) = fun _ => none := by funext j; rw [if_neg (Nat.not_lt_zero j)]
  rcases lt6 hk with rfl | rfl | rfl | rfl | rfl | rfl
  · rw [eDesk_0]
    have e5 : α 5 = q38 := by rw [hα]; exact a5
    rw [e5, hα]
    rfl
  · rw [eDesk_1, z10]; rfl
  · rw [eDesk_2, z5]; rfl
  · rw [eDesk_3, zs]; rfl
  · rw [eDesk_4, zc]; rfl
  · rfl
end
section
/-! THE HISTORY, THE OBJECT, THE REFERENCE -/
def eHist (ca : Nat → ClassId) (S : Nat) (α : Nat → Nat) : Nat → va_E := fun k =>
  if k = 0 then .inr (4, [.ref (α 1), vz])
  else if k = 1 then .inl (ca 4, 4, vr (fun j => if j < S then some (α (2 + 26 * j)) else none))
  else eDesk ca 8 5 10 (fun o => α (2 + 26 * ((k - 2) / 26) + o)) ((k - 2) % 26)
theorem eHist_0 {ca : Nat → ClassId} {S : Nat} {α : Nat → Nat} : eHist ca S α 0 = .inr (4, [.ref (α 1), vz]) := rfl
theorem eHist_1 {ca : Nat → ClassId} {S : Nat} {α : Nat → Nat} : eHist ca S α 1 = .inl (ca 4, 4, vr (fun j => if j < S then some (α (2 + 26 * j)) else none)) := rfl
theorem eHist_d {ca : Nat → ClassId} {S k : Nat} {α : Nat → Nat} (h : 2 ≤ k) : eHist ca S α k = eDesk ca 8 5 10 (fun o => α (2 + 26 * ((k - 2) / 26) + o)) ((k - 2) % 26) := by
  unfold eHist
  rw [if_neg (by omega), if_neg (by omega)]
theorem eDesk_ch {ca : Nat → ClassId} {k : Nat} {α α' : Nat → Nat} (h : ∀ j, j < 26 → α j = α' j) (hk : k < 26) : eDesk ca 8 5 10 α k = eDesk ca 8 5 10 α' k := eDesk_cg (N := 26) (by omega) (by omega) (by omega) h hk (by omega)
theorem eHist_cg {ca : Nat → ClassId} {S k : Nat} {α α' : Nat → Nat} (h : ∀ j, j < 2 + 26 * S → α j = α' j) (hk : k < 2 + 26 * S) : eHist ca S α k = eHist ca S α' k := by
  by_cases q : k < 2
  · rcases (show k = 0 ∨ k = 1 by omega) with rfl | rfl
    · rw [eHist_0, eHist_0, h 1 (by omega)]
    · rw [eHist_1, eHist_1]
      have : (fun j => if j < S then some (α (2 + 26 * j)) else none) = (fun j => if j < S then some (α' (2 + 26 * j)) else none) := by
        funext j
        by_cases z : j < S
        · rw [if_pos z, if_pos z, h _ (by omega)]
        · rw [if_neg z, if_neg z]
      rw [this]
  · rw [eHist_d (by omega), eHist_d (by omega)]
    exact eDesk_ch (fun j hj => h _ (by omega)) (Nat.mod_lt _ (by decide))
theorem x2_def : ∀ j, j < 12 → defaultValue (tyX2 j) = vp_V [.null, .null, .null, .null, vz, vz, vz, vz, .null, vz, vz, vz] j := by
  intro j hj
  rcases (show j = 0 ∨ j = 1 ∨ j = 2 ∨ j = 3 ∨ j = 4 ∨ j = 5 ∨ j = 6 ∨ j = 7 ∨ j = 8 ∨ j = 9 ∨ j = 10 ∨ j = 11 by omega) with rfl | rfl | rfl | rfl | rfl | rfl | rfl | rfl | rfl | rfl | rfl | rfl <;> rfl

set_option maxHeartbeats 4000000 in
set_option maxRecDepth 100000 in
/-- the history: its object, its row, four desks -/
theorem m_X4_init (l : Launch) (G : va_G) (ca : Nat → ClassId) (h0 : Nat) : yMet l G ca yX4_init cX4_init 2 3 53 105 888 h0 (.inr (4, [.null, vz])) 106 (eHist ca 4) := by
  refine yMet_of (by decide) rfl (by decide) (fun Γ hC => ?_)
  refine y_aload_n hC dX4_init_0 rfl ?_
  refine y_obj hC qM_X4_3 dX4_init_1 (by decide) (by decide) ?_
  refine y_aload_n hC dX4_init_4 rfl ?_
  refine y_iconst hC dX4_init_5 ?_
  refine y_newr hC 4 rfl (fun U h => h.2.2.2.2) qK_X4_9 (len := 4) rfl (by decide) dX4_init_6 (by decide) (by decide) (fun q6 => ?_)
  refine y_put hC iA_X4 (ci := 4) (N := 2) rfl tyX4 tyX4_ok nmX4 0 (by decide) qF_X4_11 rfl rfl rfl dX4_init_9 0 (by decide) rfl rfl rfl rfl (Nat.le_of_ble_eq_true rfl) ?_
  refine y_iconst hC dX4_init_12 ?_
  refine y_istore_n hC dX4_init_13 (by decide) rfl ?_
  have desks : ∀ (r i : Nat), i + r = 4 → ∀ α : Nat → Nat, α 0 = h0 → Y Γ G (1 + 26 * i) (4 + 221 * i) (2 + 26 * i) α (eHist ca i α) 14 [(1, .int (iZ (i : Int))), (0, .ref h0)] [] := by
    intro r
    induction r with
    | zero =>
      intro i hi α hα
      refine y_iload_n hC dX4_init_14 rfl ?_
      refine y_iconst hC dX4_init_15 ?_
      refine y_icmp_ge hC 38 dX4_init_16 (by decide) (by omega) (by omega) (fun c_1 => ?_) (fun c_1 => ?_)
      rotate_left
      · exfalso; omega
      obtain rfl : i = 4 := by omega
      exact y_ret hC (by decide) (by decide) rfl hα (fun k hk => rfl) dX4_init_38
    | succ r ih =>
      intro i hi α hα
      refine y_iload_n hC dX4_init_14 rfl ?_
      refine y_iconst hC dX4_init_15 ?_
      refine y_icmp_ge hC 38 dX4_init_16 (by decide) (by omega) (by omega) (fun c_1 => ?_) (fun c_1 => ?_)
      · exfalso; omega
      refine y_aload_n hC dX4_init_19 rfl ?_
      refine y_get hC iA_X4 (ci := 4) (N := 2) rfl 0 (by decide) qF_X4_11 rfl dX4_init_20 0 (by omega) hα eHist_0 rfl ?_
      refine y_iload_n hC dX4_init_23 rfl ?_
      refine y_new hC iA_X2 (ci := 2) (N := 12) rfl tyX2 tyX2_ok qK_X4_9 qn_X2 qi_X2 x2_def dX4_init_24 (by omega) (by omega) (fun q => ?_)
      refine y_dup hC dX4_init_27 rfl ?_
      refine y_call hC va_up_s dX4_init_28 (E2 := eDesk ca 8 5 10) (fun l => by rw [va_up_s (f := eHist ca i α)]; exact m_X2_init l G ca _) rfl qM_X4_17 qI_X2_init qi_X2 qC_X2_init (by decide) (by decide) (by decide) (by omega) (by omega) (by show 1 + (1 + (1 + 0)) ≤ 8; decide) (fun α2 hα2 => ?_)
      rw [va_up_s] at hα2
      obtain ⟨α3, hα3⟩ : ∃ α3 : Nat → Nat, α3 = fun k => if k < 2 + 26 * i then va_up α (2 + 26 * i) q k else α2 (k - (2 + 26 * i)) := ⟨_, rfl⟩
      have o3 : ∀ k, k < 2 + 26 * i → α3 k = α k := fun k hk => by rw [hα3]; show (if k < 2 + 26 * i then va_up α (2 + 26 * i) q k else _) = _; rw [if_pos hk, va_up_n (by omega)]
      have n3 : ∀ k, α3 (2 + 26 * i + k) = α2 k := fun k => by rw [hα3]; show (if 2 + 26 * i + k < 2 + 26 * i then _ else α2 (2 + 26 * i + k - (2 + 26 * i))) = _; rw [if_neg (by omega)]; congr 1; omega
      have q3 : α3 (2 + 26 * i) = q := (n3 0).trans hα2
      have e3 : (fun o => α3 (2 + 26 * i + o)) = α2 := funext n3
      refine y_cg (α' := α3) (ε' := fun k => if k < 2 + 26 * i then eHist ca i α k else eDesk ca 8 5 10 (fun o => α3 (2 + 26 * i + o)) (k - (2 + 26 * i))) (fun k hk => ⟨by rw [hα3], ?_⟩) ?_
      · by_cases z : k < 2 + 26 * i
        · simp only [z, if_true]
          rw [va_up_n (by omega)]
        · simp only [z, if_false]
          rw [e3]
      refine y_aast hC dX4_init_31 4 rfl (r0 := (RX2, TX2, 12)) (ci := 2) rfl 1 (by omega) (o3 1 (by omega)) (len := 4) (f := fun j => if j < i then some (α (2 + 26 * j)) else none) (by rw [if_pos (by omega)]; rfl) (2 + 26 * i) (by omega) q3 (fs := [.ref (α3 (2 + 26 * i + 1)), .ref (α3 (2 + 26 * i + 2)), .ref (α3 (2 + 26 * i + 3)), .ref (α3 (2 + 26 * i + 4)), vz, vz, vz, vz, .ref (α3 (2 + 26 * i + 5)), vz, vz, vz]) (by rw [if_neg (by omega), Nat.sub_self]; rfl) (by omega) (by omega) (by decide) ?_
      refine y_iinc hC dX4_init_32 rfl (by decide) rfl ?_
      refine y_goto hC 14 dX4_init_35 (by decide) ?_
      refine y_weak (L' := [(1, .int (iZ ((i : Int) + 1))), (0, .ref h0)]) ⟨rfl, rfl, trivial⟩ ?_
      refine y_cg (α' := α3) (ε' := eHist ca (i + 1) α3) (fun k hk => ⟨rfl, ?_⟩) ?_
      · by_cases z1 : k = 1
        · subst z1
          rw [va_up_s, eHist_1]
          have : va_up (fun j => if j < i then some (α (2 + 26 * j)) else none) (i : Int).toNat (some q) = (fun j => if j < i + 1 then some (α3 (2 + 26 * j)) else none) := by
            funext j
            rw [Int.toNat_natCast]
            by_cases zj : j = i
            · rw [zj, va_up_s, if_pos (by omega), q3]
            · rw [va_up_n zj]
              by_cases zl : j < i
              · rw [if_pos zl, if_pos (by omega), o3 _ (by omega)]
              · rw [if_neg zl, if_neg (by omega)]
          rw [this]
        · rw [va_up_n z1]
          by_cases z : k < 2 + 26 * i
          · rw [if_pos z, eHist_cg (α' := α3) (fun j hj => (o3 j hj).symm) z]
            unfold eHist
            rw [if_neg (c := k = 1) z1, if_neg (c := k = 1) z1]
          · rw [if_neg z, eHist_d (by omega), show (k - 2) / 26 = i by omega, show (k - 2) % 26 = k - (2 + 26 * i) by omega]
      exact y_eq (by omega) (by omega) (by omega) (ih (i + 1) (by omega) α3 ((o3 0 (by omega)).trans hα))
  refine y_weak (L' := [(1, .int (iZ ((0 : Nat) : Int))), (0, .ref h0)]) ⟨rfl, rfl, trivial⟩ ?_
  obtain ⟨α, hα⟩ : ∃ α : Nat → Nat, α = va_up (fun _ => h0) 1 q6 := ⟨_, rfl⟩
  refine y_cg (α' := α) (ε' := eHist ca 0 α) (fun k hk => ⟨by rw [hα], ?_⟩) (desks 4 0 (by decide) α (by rw [hα]; rfl))
  have zs : (fun j : Nat => if j < 0 then some (α (2 + 26 * j)) else none) = fun _ => none := by funext j; rw [if_neg (Nat.not_lt_zero j)]
  rcases (show k = 0 ∨ k = 1 by omega) with rfl | rfl
  · rw [eHist_0, hα]; rfl
  · rw [eHist_1, zs]; rfl

def eMain (ca : Nat → ClassId) (F : (Nat → Nat) → List Value) (α : Nat → Nat) : Nat → va_E := fun k =>
  if k = 0 then .inr (7, F α)
  else if k < 27 then eDesk ca 8 5 10 (fun o => α (1 + o)) (k - 1)
  else if k < 53 then eDesk ca 8 5 10 (fun o => α (27 + o)) (k - 27)
  else if k < 159 then eHist ca 4 (fun o => α (53 + o)) (k - 53)
  else if k < 162 then eScr ca (fun o => α (159 + o)) (k - 159)
  else eFd
theorem eMain_cg {ca : Nat → ClassId} {F F' : (Nat → Nat) → List Value} {N k : Nat} {α α' : Nat → Nat} (hN : N = 1 ∨ N = 27 ∨ N = 53 ∨ N = 159 ∨ N = 162 ∨ N = 163) (hF : F α = F' α') (h : ∀ j, j < N → α j = α' j) (hk : k < N) : eMain ca F α k = eMain ca F' α' k := by
  unfold eMain
  by_cases q0 : k = 0
  · rw [if_pos q0, if_pos q0, hF]
  rw [if_neg q0, if_neg q0]
  by_cases q1 : k < 27
  · rw [if_pos q1, if_pos q1]
    exact eDesk_ch (fun j hj => h _ (by omega)) (by omega)
  rw [if_neg q1, if_neg q1]
  by_cases q2 : k < 53
  · rw [if_pos q2, if_pos q2]
    exact eDesk_ch (fun j hj => h _ (by omega)) (by omega)
  rw [if_neg q2, if_neg q2]
  by_cases q3 : k < 159
  · rw [if_pos q3, if_pos q3]
    exact eHist_cg (fun j hj => h _ (by omega)) (by omega)
  rw [if_neg q3, if_neg q3]
  by_cases q4 : k < 162
  · rw [if_pos q4, if_pos q4]
    show (if k - 159 = 0 then (Sum.inr (5, [.ref (α 160), vz, vz, .ref (α 161), vz]) : va_E) else _) = (if k - 159 = 0 then (Sum.inr (5, [.ref (α' 160), vz, vz, .ref (α' 161), vz]) : va_E) else _)
    rw [h 160 (by omega), h 161 (by omega)]
  rw [if_neg q4, if_neg q4]
/-- the object's fields are changed -/
theorem eMain_f {ca : Nat → ClassId} {F F' : (Nat → Nat) → List Value} {α : Nat → Nat} {fs : List Value} {k : Nat} (h : F' α = fs) : va_up (eMain ca F α) 0 (.inr (7, fs)) k = eMain ca F' α k := by
  by_cases z : k = 0
  · rw [z, va_up_s, ← h]; rfl
  · rw [va_up_n z]
    unfold eMain
    rw [if_neg z, if_neg z]

set_option maxHeartbeats 4000000 in
set_option maxRecDepth 100000 in
/-- the object: 163 cells -/
theorem m_X7_init (l : Launch) (G : va_G) (ca : Nat → ClassId) (h0 : Nat) : yMet l G ca yX7_init cX7_init 1 4 74 162 1407 h0 (.inr (7, [.null, .null, .null, .null, .null])) 163 (eMain ca (fun α => [.ref (α 1), .ref (α 27), .ref (α 53), .ref (α 159), .ref (α 162)])) := by
  refine yMet_of (by decide) rfl (by decide) (fun Γ hC => ?_)
  refine y_aload_n hC dX7_init_0 rfl ?_
  refine y_obj hC qM_X7_1 dX7_init_1 (by decide) (by decide) ?_
  have st5 : ∀ α : Nat → Nat, α 0 = h0 → Y Γ G 162 1407 163 α (eMain ca (fun α => [.ref (α 1), .ref (α 27), .ref (α 53), .ref (α 159), .ref (α 162)]) α) 59 [(0, .ref h0)] [] := fun α hα => y_ret hC (by decide) (by decide) rfl hα (fun k hk => rfl) dX7_init_59
  have st4 : ∀ α : Nat → Nat, α 0 = h0 → Y Γ G 161 1403 162 α (eMain ca (fun α => [.ref (α 1), .ref (α 27), .ref (α 53), .ref (α 159), .null]) α) 48 [(0, .ref h0)] [] := by
      intro α hα
      refine y_aload_n hC dX7_init_48 rfl ?_
      refine y_new hC iA_X3 (ci := 3) (N := 4) rfl tyX3 tyX3_ok qK_X7_33 qn_X3 qi_X3 (fs := [vz, vz, vz, vz]) (fun j hj => by rcases (show j = 0 ∨ j = 1 ∨ j = 2 ∨ j = 3 by omega) with rfl | rfl | rfl | rfl <;> rfl) dX7_init_49 (by decide) (by decide) (fun q => ?_)
      refine y_dup hC dX7_init_52 rfl ?_
      refine y_callN hC va_up_s dX7_init_53 (E2 := fun _ _ => eFd) (fun l => by rw [va_up_s (f := eMain ca (fun α => [.ref (α 1), .ref (α 27), .ref (α 53), .ref (α 159), .null]) α)]; exact m_X3_init l G ca _ _) rfl (by decide +kernel) qI_X3_init qi_X3 qC_X3_init (by decide) (by decide) (by decide) (by decide) (by decide) (by show 1 + (1 + 0) ≤ 8; decide) (fun α2 hα2 => ?_)
      rw [va_up_s] at hα2
      obtain ⟨α3, hα3⟩ : ∃ α3 : Nat → Nat, α3 = fun k => if k < 162 then va_up α (162) q k else α2 (k - (162)) := ⟨_, rfl⟩
      have o3 : ∀ k, k < 162 → α3 k = α k := fun k hk => by rw [hα3]; show (if k < 162 then va_up α (162) q k else _) = _; rw [if_pos hk, va_up_n (by omega)]
      have n3 : ∀ k, α3 (162 + k) = α2 k := fun k => by rw [hα3]; show (if 162 + k < 162 then _ else α2 (162 + k - (162))) = _; rw [if_neg (by omega)]; congr 1; omega
      have q3 : α3 (162) = q := (n3 0).trans hα2
      have e3 : (fun o => α3 (162 + o)) = α2 := funext n3
      refine y_cg (α' := α3) (ε' := eMain ca (fun α => [.ref (α 1), .ref (α 27), .ref (α 53), .ref (α 159), .null]) α3) (fun k hk => ⟨by rw [hα3], ?_⟩) ?_
      · by_cases z : k < 162
        · simp only [z, if_true]
          rw [va_up_n (by omega)]
          exact eMain_cg (N := 162) (by omega) (by simp only [o3 1 (by omega), o3 27 (by omega), o3 53 (by omega), o3 159 (by omega)]) (fun j hj => (o3 j hj).symm) z
        · simp only [z, if_false]
          unfold eMain
          rw [if_neg (by omega), if_neg (by omega), if_neg (by omega), if_neg (by omega), if_neg (by omega)]
      refine y_put hC iA_X7 (ci := 7) (N := 5) rfl tyX7 tyX7_ok nmX7 4 (by decide) qF_X7_36 rfl rfl rfl dX7_init_56 0 (by decide) ((o3 0 (by omega)).trans hα) rfl rfl rfl (Nat.le_of_ble_eq_true rfl) ?_
      refine y_cg (α' := α3) (ε' := eMain ca (fun α => [.ref (α 1), .ref (α 27), .ref (α 53), .ref (α 159), .ref (α 162)]) α3) (fun k hk => ⟨rfl, eMain_f (by rw [← q3]; rfl)⟩) ?_
      exact st5 α3 ((o3 0 (by omega)).trans hα)
  have st3 : ∀ α : Nat → Nat, α 0 = h0 → Y Γ G 158 1332 159 α (eMain ca (fun α => [.ref (α 1), .ref (α 27), .ref (α 53), .null, .null]) α) 37 [(0, .ref h0)] [] := by
      intro α hα
      refine y_aload_n hC dX7_init_37 rfl ?_
      refine y_new hC iA_X5 (ci := 5) (N := 5) rfl tyX5 tyX5_ok qK_X7_26 qn_X5 qi_X5 (fs := [.null, vz, vz, .null, vz]) (fun j hj => by rcases (show j = 0 ∨ j = 1 ∨ j = 2 ∨ j = 3 ∨ j = 4 by omega) with rfl | rfl | rfl | rfl | rfl <;> rfl) dX7_init_38 (by decide) (by decide) (fun q => ?_)
      refine y_dup hC dX7_init_41 rfl ?_
      refine y_callN hC va_up_s dX7_init_42 (E2 := eScr ca) (fun l => by rw [va_up_s (f := eMain ca (fun α => [.ref (α 1), .ref (α 27), .ref (α 53), .null, .null]) α)]; exact m_X5_init l G ca _) rfl (by decide +kernel) qI_X5_init qi_X5 qC_X5_init (by decide) (by decide) (by decide) (by decide) (by decide) (by show 1 + (1 + 0) ≤ 8; decide) (fun α2 hα2 => ?_)
      rw [va_up_s] at hα2
      obtain ⟨α3, hα3⟩ : ∃ α3 : Nat → Nat, α3 = fun k => if k < 159 then va_up α (159) q k else α2 (k - (159)) := ⟨_, rfl⟩
      have o3 : ∀ k, k < 159 → α3 k = α k := fun k hk => by rw [hα3]; show (if k < 159 then va_up α (159) q k else _) = _; rw [if_pos hk, va_up_n (by omega)]
      have n3 : ∀ k, α3 (159 + k) = α2 k := fun k => by rw [hα3]; show (if 159 + k < 159 then _ else α2 (159 + k - (159))) = _; rw [if_neg (by omega)]; congr 1; omega
      have q3 : α3 (159) = q := (n3 0).trans hα2
      have e3 : (fun o => α3 (159 + o)) = α2 := funext n3
      refine y_cg (α' := α3) (ε' := eMain ca (fun α => [.ref (α 1), .ref (α 27), .ref (α 53), .null, .null]) α3) (fun k hk => ⟨by rw [hα3], ?_⟩) ?_
      · by_cases z : k < 159
        · simp only [z, if_true]
          rw [va_up_n (by omega)]
          exact eMain_cg (N := 159) (by omega) (by simp only [o3 1 (by omega), o3 27 (by omega), o3 53 (by omega)]) (fun j hj => (o3 j hj).symm) z
        · simp only [z, if_false]
          unfold eMain
          rw [if_neg (by omega), if_neg (by omega), if_neg (by omega), if_neg (by omega), if_pos (by omega), e3]
      refine y_put hC iA_X7 (ci := 7) (N := 5) rfl tyX7 tyX7_ok nmX7 3 (by decide) qF_X7_29 rfl rfl rfl dX7_init_45 0 (by decide) ((o3 0 (by omega)).trans hα) rfl rfl rfl (Nat.le_of_ble_eq_true rfl) ?_
      refine y_cg (α' := α3) (ε' := eMain ca (fun α => [.ref (α 1), .ref (α 27), .ref (α 53), .ref (α 159), .null]) α3) (fun k hk => ⟨rfl, eMain_f (by rw [← q3]; rfl)⟩) ?_
      exact st4 α3 ((o3 0 (by omega)).trans hα)
  have st2 : ∀ α : Nat → Nat, α 0 = h0 → Y Γ G 52 442 53 α (eMain ca (fun α => [.ref (α 1), .ref (α 27), .null, .null, .null]) α) 26 [(0, .ref h0)] [] := by
      intro α hα
      refine y_aload_n hC dX7_init_26 rfl ?_
      refine y_new hC iA_X4 (ci := 4) (N := 2) rfl tyX4 tyX4_ok qK_X7_19 qn_X4 qi_X4 (fs := [.null, vz]) (fun j hj => by rcases (show j = 0 ∨ j = 1 by omega) with rfl | rfl <;> rfl) dX7_init_27 (by decide) (by decide) (fun q => ?_)
      refine y_dup hC dX7_init_30 rfl ?_
      refine y_call hC va_up_s dX7_init_31 (E2 := eHist ca 4) (fun l => by rw [va_up_s (f := eMain ca (fun α => [.ref (α 1), .ref (α 27), .null, .null, .null]) α)]; exact m_X4_init l G ca _) rfl qM_X7_21 qI_X4_init qi_X4 qC_X4_init (by decide) (by decide) (by decide) (by decide) (by decide) (by show 1 + (1 + 0) ≤ 8; decide) (fun α2 hα2 => ?_)
      rw [va_up_s] at hα2
      obtain ⟨α3, hα3⟩ : ∃ α3 : Nat → Nat, α3 = fun k => if k < 53 then va_up α (53) q k else α2 (k - (53)) := ⟨_, rfl⟩
      have o3 : ∀ k, k < 53 → α3 k = α k := fun k hk => by rw [hα3]; show (if k < 53 then va_up α (53) q k else _) = _; rw [if_pos hk, va_up_n (by omega)]
      have n3 : ∀ k, α3 (53 + k) = α2 k := fun k => by rw [hα3]; show (if 53 + k < 53 then _ else α2 (53 + k - (53))) = _; rw [if_neg (by omega)]; congr 1; omega
      have q3 : α3 (53) = q := (n3 0).trans hα2
      have e3 : (fun o => α3 (53 + o)) = α2 := funext n3
      refine y_cg (α' := α3) (ε' := eMain ca (fun α => [.ref (α 1), .ref (α 27), .null, .null, .null]) α3) (fun k hk => ⟨by rw [hα3], ?_⟩) ?_
      · by_cases z : k < 53
        · simp only [z, if_true]
          rw [va_up_n (by omega)]
          exact eMain_cg (N := 53) (by omega) (by simp only [o3 1 (by omega), o3 27 (by omega)]) (fun j hj => (o3 j hj).symm) z
        · simp only [z, if_false]
          unfold eMain
          rw [if_neg (by omega), if_neg (by omega), if_neg (by omega), if_pos (by omega), e3]
      refine y_put hC iA_X7 (ci := 7) (N := 5) rfl tyX7 tyX7_ok nmX7 2 (by decide) qF_X7_22 rfl rfl rfl dX7_init_34 0 (by decide) ((o3 0 (by omega)).trans hα) rfl rfl rfl (Nat.le_of_ble_eq_true rfl) ?_
      refine y_cg (α' := α3) (ε' := eMain ca (fun α => [.ref (α 1), .ref (α 27), .ref (α 53), .null, .null]) α3) (fun k hk => ⟨rfl, eMain_f (by rw [← q3]; rfl)⟩) ?_
      exact st3 α3 ((o3 0 (by omega)).trans hα)
  have st1 : ∀ α : Nat → Nat, α 0 = h0 → Y Γ G 26 221 27 α (eMain ca (fun α => [.ref (α 1), .null, .null, .null, .null]) α) 15 [(0, .ref h0)] [] := by
      intro α hα
      refine y_aload_n hC dX7_init_15 rfl ?_
      refine y_new hC iA_X2 (ci := 2) (N := 12) rfl tyX2 tyX2_ok qK_X7_7 qn_X2 qi_X2 x2_def dX7_init_16 (by decide) (by decide) (fun q => ?_)
      refine y_dup hC dX7_init_19 rfl ?_
      refine y_call hC va_up_s dX7_init_20 (E2 := eDesk ca 8 5 10) (fun l => by rw [va_up_s (f := eMain ca (fun α => [.ref (α 1), .null, .null, .null, .null]) α)]; exact m_X2_init l G ca _) rfl qM_X7_9 qI_X2_init qi_X2 qC_X2_init (by decide) (by decide) (by decide) (by decide) (by decide) (by show 1 + (1 + 0) ≤ 8; decide) (fun α2 hα2 => ?_)
      rw [va_up_s] at hα2
      obtain ⟨α3, hα3⟩ : ∃ α3 : Nat → Nat, α3 = fun k => if k < 27 then va_up α (27) q k else α2 (k - (27)) := ⟨_, rfl⟩
      have o3 : ∀ k, k < 27 → α3 k = α k := fun k hk => by rw [hα3]; show (if k < 27 then va_up α (27) q k else _) = _; rw [if_pos hk, va_up_n (by omega)]
      have n3 : ∀ k, α3 (27 + k) = α2 k := fun k => by rw [hα3]; show (if 27 + k < 27 then _ else α2 (27 + k - (27))) = _; rw [if_neg (by omega)]; congr 1; omega
      have q3 : α3 (27) = q := (n3 0).trans hα2
      have e3 : (fun o => α3 (27 + o)) = α2 := funext n3
      refine y_cg (α' := α3) (ε' := eMain ca (fun α => [.ref (α 1), .null, .null, .null, .null]) α3) (fun k hk => ⟨by rw [hα3], ?_⟩) ?_
      · by_cases z : k < 27
        · simp only [z, if_true]
          rw [va_up_n (by omega)]
          exact eMain_cg (N := 27) (by omega) (by simp only [o3 1 (by omega)]) (fun j hj => (o3 j hj).symm) z
        · simp only [z, if_false]
          unfold eMain
          rw [if_neg (by omega), if_neg (by omega), if_pos (by omega), e3]
      refine y_put hC iA_X7 (ci := 7) (N := 5) rfl tyX7 tyX7_ok nmX7 1 (by decide) qF_X7_16 rfl rfl rfl dX7_init_23 0 (by decide) ((o3 0 (by omega)).trans hα) rfl rfl rfl (Nat.le_of_ble_eq_true rfl) ?_
      refine y_cg (α' := α3) (ε' := eMain ca (fun α => [.ref (α 1), .ref (α 27), .null, .null, .null]) α3) (fun k hk => ⟨rfl, eMain_f (by rw [← q3]; rfl)⟩) ?_
      exact st2 α3 ((o3 0 (by omega)).trans hα)
  have st0 : ∀ α : Nat → Nat, α 0 = h0 → Y Γ G 0 0 1 α (eMain ca (fun α => [.null, .null, .null, .null, .null]) α) 4 [(0, .ref h0)] [] := by
      intro α hα
      refine y_aload_n hC dX7_init_4 rfl ?_
      refine y_new hC iA_X2 (ci := 2) (N := 12) rfl tyX2 tyX2_ok qK_X7_7 qn_X2 qi_X2 x2_def dX7_init_5 (by decide) (by decide) (fun q => ?_)
      refine y_dup hC dX7_init_8 rfl ?_
      refine y_call hC va_up_s dX7_init_9 (E2 := eDesk ca 8 5 10) (fun l => by rw [va_up_s (f := eMain ca (fun α => [.null, .null, .null, .null, .null]) α)]; exact m_X2_init l G ca _) rfl qM_X7_9 qI_X2_init qi_X2 qC_X2_init (by decide) (by decide) (by decide) (by decide) (by decide) (by show 1 + (1 + 0) ≤ 8; decide) (fun α2 hα2 => ?_)
      rw [va_up_s] at hα2
      obtain ⟨α3, hα3⟩ : ∃ α3 : Nat → Nat, α3 = fun k => if k < 1 then va_up α (1) q k else α2 (k - (1)) := ⟨_, rfl⟩
      have o3 : ∀ k, k < 1 → α3 k = α k := fun k hk => by rw [hα3]; show (if k < 1 then va_up α (1) q k else _) = _; rw [if_pos hk, va_up_n (by omega)]
      have n3 : ∀ k, α3 (1 + k) = α2 k := fun k => by rw [hα3]; show (if 1 + k < 1 then _ else α2 (1 + k - (1))) = _; rw [if_neg (by omega)]; congr 1; omega
      have q3 : α3 (1) = q := (n3 0).trans hα2
      have e3 : (fun o => α3 (1 + o)) = α2 := funext n3
      refine y_cg (α' := α3) (ε' := eMain ca (fun α => [.null, .null, .null, .null, .null]) α3) (fun k hk => ⟨by rw [hα3], ?_⟩) ?_
      · by_cases z : k < 1
        · simp only [z, if_true]
          rw [va_up_n (by omega)]
          exact eMain_cg (N := 1) (by omega) (rfl) (fun j hj => (o3 j hj).symm) z
        · simp only [z, if_false]
          unfold eMain
          rw [if_neg (by omega), if_pos (by omega), e3]
      refine y_put hC iA_X7 (ci := 7) (N := 5) rfl tyX7 tyX7_ok nmX7 0 (by decide) qF_X7_10 rfl rfl rfl dX7_init_12 0 (by decide) ((o3 0 (by omega)).trans hα) rfl rfl rfl (Nat.le_of_ble_eq_true rfl) ?_
      refine y_cg (α' := α3) (ε' := eMain ca (fun α => [.ref (α 1), .null, .null, .null, .null]) α3) (fun k hk => ⟨rfl, eMain_f (by rw [← q3]; rfl)⟩) ?_
      exact st1 α3 ((o3 0 (by omega)).trans hα)
  refine y_cg (α' := fun _ => h0) (ε' := eMain ca (fun α => [.null, .null, .null, .null, .null]) (fun _ => h0)) (fun k hk => ⟨rfl, ?_⟩) (st0 _ rfl)
  obtain rfl : k = 0 := by omega
  rfl
end
section
/-! FROM WHAT IS MADE TO THE STATE: the cells under their numbers -/
def eqE (e e' : va_E) : Prop := e = e' ∨ (∃ (cA : ClassId) (n : Nat) (f f' : Nat → Int32), e = .inl (cA, n, .inl f) ∧ e' = .inl (cA, n, .inl f') ∧ ∀ j, j < n → f j = f' j) ∨ ∃ (cA : ClassId) (n : Nat) (f f' : Nat → Option Nat), e = .inl (cA, n, vr f) ∧ e' = .inl (cA, n, vr f') ∧ ∀ j, j < n → f j = f' j
theorem arrV_cg {cA : ClassId} {n : Nat} {f g : Nat → Value} (h : ∀ j, j < n → f j = g j) : arrV cA n f = arrV cA n g := by
  unfold arrV
  have : (fun j : Fin n => f j.val) = fun j : Fin n => g j.val := funext (fun j => h j.val j.isLt)
  rw [this]
theorem eqE_at {D : va_G} {cl : List vw_C} {a : Nat} {e e' : va_E} {H : Heap} (h : eqE e e') (q : va_at D cl (a, e) H) : va_at D cl (a, e') H := by
  rcases h with h | ⟨cA, n, f, f', h1, h2, h3⟩ | ⟨cA, n, f, f', h1, h2, h3⟩
  · rw [← h]; exact q
  · rw [h1] at q
    rw [h2]
    have e9 : arrV cA n (fun j => Value.int (f j)) = arrV cA n (fun j => Value.int (f' j)) := arrV_cg (fun j hj => by rw [h3 j hj])
    have q2 : H[a]? = some (arrV cA n (fun j => Value.int (f j))) := q
    rw [e9] at q2
    exact q2
  · rw [h1] at q
    rw [h2]
    have e9 : arrV cA n (fun j => va_rf (f j)) = arrV cA n (fun j => va_rf (f' j)) := arrV_cg (fun j hj => by rw [h3 j hj])
    have q2 : H[a]? = some (arrV cA n (fun j => va_rf (f j))) := q
    rw [e9] at q2
    exact q2
/-- where a cell was made: within a desk, and at all -/
def sg (o : Int) : Int := if o < 6 then o else if o < 11 then 2 * o - 6 else if o < 16 then 2 * o - 15 else o
def plI (c : Int) : Int := if c < 156 then (if c < 52 then 1 else 3) + 26 * (c / 26) + sg (c % 26) else if c = 156 then 0 else if c = 157 then 53 else if c = 158 then 54 else c
def sgi (s : Int) : Int := if s < 6 then s else if s < 16 then (if s % 2 = 0 then s / 2 + 3 else (s + 15) / 2) else s
def plInv (p : Int) : Int := if p = 0 then 156 else if p = 53 then 157 else if p = 54 then 158 else if 159 ≤ p then p else if p < 53 then 26 * ((p - 1) / 26) + sgi ((p - 1) % 26) else 26 * ((p - 3) / 26) + sgi ((p - 3) % 26)
theorem plI_ok : ∀ k : Nat, k < 163 → plInv (plI (k : Int)) = (k : Int) ∧ 0 ≤ plI (k : Int) ∧ plI (k : Int) < 163 := by decide +kernel
theorem plI_inj {c c' : Int} (h : 0 ≤ c ∧ c < 163) (h' : 0 ≤ c' ∧ c' < 163) (e : plI c = plI c') : c = c' := by
  have a := (plI_ok c.toNat (by omega)).1
  have b := (plI_ok c'.toNat (by omega)).1
  rw [Int.toNat_of_nonneg h.1] at a
  rw [Int.toNat_of_nonneg h'.1] at b
  rw [← a, ← b, e]
theorem plI_r {c : Int} (h : 0 ≤ c ∧ c < 163) : 0 ≤ plI c ∧ plI c < 163 := by
  have a := (plI_ok c.toNat (by omega)).2
  rw [Int.toNat_of_nonneg h.1] at a
  exact a
/-- the addresses by the cells' numbers -/
def adO (α : Nat → Nat) (c : Int) : Nat := α (plI c).toNat
/-- where desk j begins -/
def bB (j : Int) : Nat := ((if j < 2 then 1 else 3) + 26 * j).toNat
theorem adO_b {α : Nat → Nat} {j o : Int} {s : Nat} (hj : 0 ≤ j ∧ j ≤ 5) (ho : 0 ≤ o ∧ o < 26) (hs : (s : Int) = sg o) : adO α (26 * j + o) = α (bB j + s) := by
  unfold adO
  congr 1
  unfold plI bB
  rw [if_pos (by omega), show (26 * j + o) / 26 = j by omega, show (26 * j + o) % 26 = o by omega]
  by_cases q : j < 2
  · rw [if_pos (by omega), if_pos q]; omega
  · rw [if_neg (by omega), if_neg q]; omega
abbrev F5 : (Nat → Nat) → List Value := fun α => [.ref (α 1), .ref (α 27), .ref (α 53), .ref (α 159), .ref (α 162)]
/-- a desk among what was made -/
theorem eM_desk {ca : Nat → ClassId} {F : (Nat → Nat) → List Value} {α : Nat → Nat} {j : Int} (hj : 0 ≤ j ∧ j ≤ 5) {s : Nat} (hs : s < 26) : eMain ca F α (bB j + s) = eDesk ca 8 5 10 (fun x => α (bB j + x)) s := by
  unfold eMain
  have hB : bB j = ((if j < 2 then 1 else 3) + 26 * j).toNat := rfl
  by_cases q0 : j = 0
  · have hb : bB j = 1 := by rw [hB, q0]; rfl
    rw [hb, if_neg (by omega), if_pos (by omega), show 1 + s - 1 = s by omega]
  by_cases q1 : j = 1
  · have hb : bB j = 27 := by rw [hB, q1]; rfl
    rw [hb, if_neg (by omega), if_neg (by omega), if_pos (by omega), show 27 + s - 27 = s by omega]
  · have hb : (bB j : Int) = 3 + 26 * j := by rw [hB, if_neg (by omega)]; omega
    obtain ⟨i, hi⟩ : ∃ i : Nat, (i : Int) = j - 2 := ⟨(j - 2).toNat, by omega⟩
    have hb2 : bB j = 55 + 26 * i := by omega
    rw [hb2, if_neg (by omega), if_neg (by omega), if_neg (by omega), if_pos (by omega), eHist_d (by omega), show (55 + 26 * i + s - 53 - 2) / 26 = i by omega, show (55 + 26 * i + s - 53 - 2) % 26 = s by omega]
    have : (fun o => α (53 + (2 + 26 * i + o))) = (fun x => α (55 + 26 * i + x)) := by
      funext x
      congr 1
      omega
    rw [this]
/-- the memory of a new object -/
def mu0 : zM := fun c i => if c < 156 ∧ c % 26 = 1 then 10 * i else if c < 156 ∧ c % 26 = 2 then 5 * (i % 3) else if c = 158 then 2 + i else 0
theorem mu0_0 {c i : Int} (h1 : c % 26 ≠ 1 ∨ 156 ≤ c) (h2 : c % 26 ≠ 2 ∨ 156 ≤ c) (h3 : c ≠ 158) : mu0 c i = 0 := by
  unfold mu0
  rw [if_neg (by omega), if_neg (by omega), if_neg h3]
theorem mu0_x {c i : Int} (h : c < 156) (h1 : c % 26 = 1) : mu0 c i = 10 * i := if_pos ⟨h, h1⟩
theorem mu0_y {c i : Int} (h : c < 156) (h1 : c % 26 = 2) : mu0 c i = 5 * (i % 3) := by
  unfold mu0
  rw [if_neg (by omega), if_pos ⟨h, h1⟩]
theorem mu0_s {i : Int} : mu0 158 i = 2 + i := rfl
/-- a desk's cells as they were made, and as they are numbered -/
theorem mk_desk {ca : Nat → ClassId} {F : (Nat → Nat) → List Value} {α : Nat → Nat} {j o : Int} (hj : 0 ≤ j ∧ j ≤ 5) (ho : 0 ≤ o ∧ o < 26) : eqE (eMain ca F α (bB j + (sg o).toNat)) (ccd ca (adO α) (26 * j + o) (mu0 (26 * j + o))) := by
  have hb : zb (26 * j) := ⟨j, hj.1, hj.2, rfl⟩
  have a := fun (o : Int) (s : Nat) (h : 0 ≤ o ∧ o < 26) (hs : (s : Int) = sg o) => adO_b (α := α) hj h hs
  have m0 : ∀ i, o ≠ 1 → o ≠ 2 → mu0 (26 * j + o) i = 0 := fun i h1 h2 => mu0_0 (by omega) (by omega) (by omega)
  have hsg : 0 ≤ sg o ∧ sg o < 26 := by unfold sg; split <;> (try split) <;> (try split) <;> omega
  rw [eM_desk hj (by omega)]
  by_cases q0 : o = 0
  · subst q0
    rw [Int.add_zero]
    left
    have z := fun i => mu0_0 (c := 26 * j) (i := i) (by omega) (by omega) (by omega)
    rw [cd_desk hb, z, z, z, z, z, z, z, a 1 1 (by omega) rfl, a 2 2 (by omega) rfl, a 3 3 (by omega) rfl, a 4 4 (by omega) rfl, a 5 5 (by omega) rfl]
    rfl
  by_cases q1 : o = 1
  · subst q1
    rw [cd_x hb]
    right; left
    exact ⟨ca 0, 8, _, _, rfl, rfl, fun i hi => by rw [if_pos hi, mu0_x (by omega) (by omega)]⟩
  by_cases q2 : o = 2
  · subst q2
    rw [cd_y hb]
    right; left
    exact ⟨ca 0, 8, _, _, rfl, rfl, fun i hi => by rw [if_pos hi, mu0_y (by omega) (by omega)]⟩
  by_cases q3 : o = 3
  · subst q3
    rw [cd_ships hb]
    right; right
    exact ⟨ca 2, 5, _, _, rfl, rfl, fun i hi => by
      rw [if_pos hi, show 26 * j + 6 + (i : Int) = 26 * j + (6 + (i : Int)) by omega, a (6 + (i : Int)) (6 + 2 * i) (by omega) (by unfold sg; rw [if_neg (by omega), if_pos (by omega)]; omega)]⟩
  by_cases q4 : o = 4
  · subst q4
    rw [cd_cargoes hb]
    right; right
    exact ⟨ca 3, 10, _, _, rfl, rfl, fun i hi => by
      rw [if_pos hi, show 26 * j + 16 + (i : Int) = 26 * j + (16 + (i : Int)) by omega, a (16 + (i : Int)) (16 + i) (by omega) (by unfold sg; rw [if_neg (by omega), if_neg (by omega), if_neg (by omega)]; omega)]⟩
  by_cases q5 : o = 5
  · subst q5
    rw [cd_course hb, m0 _ (by omega) (by omega), m0 _ (by omega) (by omega), m0 _ (by omega) (by omega), m0 _ (by omega) (by omega), m0 _ (by omega) (by omega), m0 _ (by omega) (by omega), m0 _ (by omega) (by omega), m0 _ (by omega) (by omega)]
    exact Or.inl rfl
  by_cases q6 : o < 11
  · obtain ⟨k, rfl⟩ : ∃ k, o = 6 + k := ⟨o - 6, by omega⟩
    have e0 : (sg (6 + k)).toNat = 6 + 2 * k.toNat := by unfold sg; rw [if_neg (by omega), if_pos (by omega)]; omega
    rw [e0, eDesk_e (by omega) (by omega), show 26 * j + (6 + k) = 26 * j + 6 + k by omega, cd_ship hb (by omega), show 26 * j + 11 + k = 26 * j + (11 + k) by omega, a (11 + k) (6 + 2 * k.toNat + 1) (by omega) (by unfold sg; rw [if_neg (by omega), if_neg (by omega), if_pos (by omega)]; omega)]
    have z := fun i => mu0_0 (c := 26 * j + 6 + k) (i := i) (by omega) (by omega) (by omega)
    rw [z, z, z, z, z, z, z]
    exact Or.inl rfl
  by_cases q7 : o < 16
  · obtain ⟨k, rfl⟩ : ∃ k, o = 11 + k := ⟨o - 11, by omega⟩
    have e0 : (sg (11 + k)).toNat = 7 + 2 * k.toNat := by unfold sg; rw [if_neg (by omega), if_neg (by omega), if_pos (by omega)]; omega
    rw [e0, eDesk_f (by omega) (by omega), show 26 * j + (11 + k) = 26 * j + 11 + k by omega, cd_fx hb (by omega)]
    right; left
    exact ⟨ca 0, 10, _, _, rfl, rfl, fun i hi => by rw [mu0_0 (by omega) (by omega) (by omega)]⟩
  · obtain ⟨k, rfl⟩ : ∃ k, o = 16 + k := ⟨o - 16, by omega⟩
    have e0 : (sg (16 + k)).toNat = 16 + k.toNat := by unfold sg; rw [if_neg (by omega), if_neg (by omega), if_neg (by omega)]; omega
    rw [e0, eDesk_c (by omega), show 26 * j + (16 + k) = 26 * j + 16 + k by omega, cd_cargo hb (by omega)]
    have z := fun i => mu0_0 (c := 26 * j + 16 + k) (i := i) (by omega) (by omega) (by omega)
    rw [z, z, z, z, z, z, z, z]
    exact Or.inl rfl
theorem mk_all {ca : Nat → ClassId} {α : Nat → Nat} {c : Int} (hc : 0 ≤ c ∧ c < 163) : eqE (eMain ca F5 α (plI c).toNat) (ccd ca (adO α) c (mu0 c)) := by
  by_cases q : c < 156
  · have h := mk_desk (ca := ca) (F := F5) (α := α) (j := c / 26) (o := c % 26) (by omega) (by omega)
    have e1 : 26 * (c / 26) + c % 26 = c := by omega
    have hsg : 0 ≤ sg (c % 26) := by unfold sg; split <;> (try split) <;> (try split) <;> omega
    have e2 : (plI c).toNat = bB (c / 26) + (sg (c % 26)).toNat := by
      unfold plI bB
      rw [if_pos q]
      by_cases z : c < 52
      · rw [if_pos z, if_pos (by omega)]; omega
      · rw [if_neg z, if_neg (by omega)]; omega
    rw [e1] at h
    rw [e2]
    exact h
  · rcases (show c = 156 ∨ c = 157 ∨ c = 158 ∨ c = 159 ∨ c = 160 ∨ c = 161 ∨ c = 162 by omega) with rfl | rfl | rfl | rfl | rfl | rfl | rfl
    · exact Or.inl rfl
    · exact Or.inl rfl
    · right; right
      refine ⟨ca 4, 4, _, _, rfl, rfl, fun i hi => ?_⟩
      rw [if_pos hi, mu0_s, show 26 * (2 + (i : Int)) = 26 * (2 + (i : Int)) + 0 by omega, adO_b (s := 0) (by omega) (by omega) rfl]
      have hb : bB (2 + (i : Int)) = 55 + 26 * i := by unfold bB; rw [if_neg (by omega)]; omega
      rw [hb]
      show some (α (53 + (2 + 26 * i))) = some (α (55 + 26 * i + 0))
      rw [show 53 + (2 + 26 * i) = 55 + 26 * i + 0 by omega]
    · exact Or.inl rfl
    · exact Or.inl rfl
    · exact Or.inl rfl
    · exact Or.inl rfl
/-- the class's own cells -/
def cA (ad : Int → Nat) (n : Nat) : Nat → Prop := fun q => ∃ c : Int, (0 ≤ c ∧ c < (n : Int)) ∧ q = ad c
set_option maxRecDepth 100000 in
theorem mk_class {G : va_G} {ca : Nat → ClassId} {A : Nat → Prop} {α : Nat → Nat} {H : Heap} (h : yH G A 163 α (eMain ca F5 α) H) : zH (cω G ca (adO α)) (cA (adO α) 163) mu0 H := by
  have at' : ∀ (k : Nat) (q : Nat × va_E), (zws (cω G ca (adO α)) mu0)[k]? = some q → k < 163 ∧ q = (adO α (k : Int), ccd ca (adO α) (k : Int) (mu0 (k : Int))) := by
    intro k q hq
    by_cases hk : k < 163
    · simp only [zws, List.getElem?_map, List.getElem?_range hk, Option.map_some, Option.some.injEq] at hq
      exact ⟨hk, hq.symm⟩
    · simp [zws, List.getElem?_eq_none (l := List.range 163) (by simpa using hk)] at hq
  refine ⟨fun k q hq => ?_, fun i j p q hi hj e => ?_, fun k q hq => ?_⟩
  · obtain ⟨hk, rfl⟩ := at' k q hq
    have hr := plI_r (c := (k : Int)) (by omega)
    have e1 : va_at G zcl (adO α (k : Int), eMain ca F5 α (plI (k : Int)).toNat) H := h.1 (plI (k : Int)).toNat _ (fws_at (by omega))
    show va_at G zcl (adO α (k : Int), ccd ca (adO α) (k : Int) (mu0 (k : Int))) H
    exact eqE_at (mk_all (by omega)) e1
  · obtain ⟨hi1, rfl⟩ := at' i p hi
    obtain ⟨hj1, rfl⟩ := at' j q hj
    have ri := plI_r (c := (i : Int)) (by omega)
    have rj := plI_r (c := (j : Int)) (by omega)
    have := h.2.1 (plI (i : Int)).toNat (plI (j : Int)).toNat _ _ (fws_at (by omega)) (fws_at (by omega)) e
    have := plI_inj (c := (i : Int)) (c' := (j : Int)) (by omega) (by omega) (by omega)
    omega
  · obtain ⟨hk, rfl⟩ := at' k q hq
    exact ⟨(k : Int), by show 0 ≤ (k : Int) ∧ (k : Int) < ((163 : Nat) : Int); omega, rfl⟩
/-! THE FIRST STATE -/
def d0 : zM := vw mu0 0
theorem d0_in {o i : Int} (h : zrel o i) : d0 o i = mu0 o i := by
  unfold d0
  rw [vw_in h, Int.zero_add]
theorem inv0 : zInv d0 := by
  have z : ∀ o i, zrel o i → o ≠ 1 → o ≠ 2 → d0 o i = 0 := fun o i h h1 h2 => by
    rw [d0_in h]
    unfold zrel at h
    exact mu0_0 (by omega) (by omega) (by omega)
  have e4 : d0 0 4 = 0 := z 0 4 (by unfold zrel; omega) (by omega) (by omega)
  have e5 : d0 0 5 = 0 := z 0 5 (by unfold zrel; omega) (by omega) (by omega)
  refine ⟨⟨?_, ?_, ?_, ?_⟩, ?_, ?_, ?_, ?_, ?_, ?_⟩
  · unfold bN
    rw [e4, e5]
    omega
  · intro p hp
    rw [d0_in (o := 1) (i := p) (by unfold zrel; omega), d0_in (o := 2) (i := p) (by unfold zrel; omega), mu0_x (by omega) (by omega), mu0_y (by omega) (by omega)]
    omega
  · intro k hk; rw [e4] at hk; omega
  · intro c hc; rw [e5] at hc; omega
  · intro k hk
    rw [e4] at hk
    exact ⟨z _ _ (by unfold zrel; omega) (by omega) (by omega), z _ _ (by unfold zrel; omega) (by omega) (by omega)⟩
  · intro c hc
    rw [e5] at hc
    exact z _ _ (by unfold zrel; omega) (by omega) (by omega)
  · intro k hk; rw [e4] at hk; omega
  · intro k hk; rw [e4] at hk; omega
  · intro k k' x x' hk; rw [e4] at hk; omega
  · intro k hk; rw [e4] at hk; omega
end
section
/-! VOYAGE AND PLAN, as far as the law asks -/
def qVoy (d : zM) (k c w : Int) : Int := if w = 0 then sCould d k c else sFree d k c (sEnd d k).1 (sEnd d k).2.1 - (sEnd d k).2.1

set_option maxHeartbeats 4000000 in
set_option maxRecDepth 100000 in
/-- voyage(k, c, 0 or 2) -/
theorem m_X7_voyage (l : Launch) (G : va_G) (ca : Nat → ClassId) (ad : Int → Nat) (A : Nat → Prop) (μ : zM) (d : zM) (n : Int) (h : Int → zM) (L : Int) (t : Int → Int) (hX : zSt μ d n h L t) (hI : zInv d) (k c w : Int) (hk : 0 ≤ k ∧ k < d 0 4) (hc : 0 ≤ c ∧ c < d 0 5) (hw : w = 0 ∨ w = 2) : zMet l (cω G ca ad) A yX7_voyage cX7_voyage 6 (some .int) 4 112 [.ref (ad 156), .int (iZ k), .int (iZ c), .int (iZ w)] μ (zpI (.int (iZ (qVoy d k c w))) (fun μ' => zSt μ' d n h L t)) := by
  refine zMet_of (by decide) (Nat.le_of_ble_eq_true rfl) (fun Γ hC => ?_)
  show Z Γ _ μ 0 [(0, .ref (ad 156)), (1, .int (iZ k)), (2, .int (iZ c)), (3, .int (iZ w))] []
  obtain ⟨hB, _⟩ := id hI
  obtain ⟨hN, hP, hB3, hB4⟩ := id hB
  obtain ⟨hN1, hN2⟩ := id hN
  have hG := zInv_G hI
  refine z_aload_n hC dX7_voyage_0 rfl ?_
  refine z_get hC iA_X7 rfl 0 (by decide) qF_X7_10 rfl dX7_voyage_1 cl_main (cd_main (ca := ca) (ad := ad)) rfl ?_
  refine z_iload_n hC dX7_voyage_4 rfl ?_
  have hN1 : μ 0 4 = d 0 4 := by rw [← hX.1, vw_S]
  refine z_callV hC [.int (iZ k)] 1 rfl dX7_voyage_5 (fun l => m_X2_isShip l G ca ad _ μ 0 zb_0 k (by omega) (by omega)) qM_X7_73 qI_X2_isShip qS_X2_isShip qi_X2 qC_X2_isShip (by decide +kernel) (by decide) (by decide) (cl_desk zb_0) (cd_desk (ca := ca) (ad := ad) zb_0) rfl (Nat.le_of_ble_eq_true rfl) (zk_pure ?_) rfl
  rw [hN1]
  refine z_ifb_eq hC 22 dX7_voyage_8 (by decide) (fun c_2 => ?_) (fun c_2 => ?_)
  · exfalso; omega
  · refine z_aload_n hC dX7_voyage_11 rfl ?_
    refine z_get hC iA_X7 rfl 0 (by decide) qF_X7_10 rfl dX7_voyage_12 cl_main (cd_main (ca := ca) (ad := ad)) rfl ?_
    refine z_iload_n hC dX7_voyage_15 rfl ?_
    have hN3 : μ 0 5 = d 0 5 := by rw [← hX.1, vw_Cn]
    refine z_callV hC [.int (iZ c)] 1 rfl dX7_voyage_16 (fun l => m_X2_isCargo l G ca ad _ μ 0 zb_0 c (by omega) (by omega)) qM_X7_122 qI_X2_isCargo qS_X2_isCargo qi_X2 qC_X2_isCargo (by decide +kernel) (by decide) (by decide) (cl_desk zb_0) (cd_desk (ca := ca) (ad := ad) zb_0) rfl (Nat.le_of_ble_eq_true rfl) (zk_pure ?_) rfl
    rw [hN3]
    refine z_ifb_ne hC 25 dX7_voyage_19 (by decide) (fun c_4 => ?_) (fun c_4 => ?_)
    · refine z_aload_n hC dX7_voyage_25 rfl ?_
      refine z_get hC iA_X7 rfl 0 (by decide) qF_X7_10 rfl dX7_voyage_26 cl_main (cd_main (ca := ca) (ad := ad)) rfl ?_
      refine z_iload_n hC dX7_voyage_29 rfl ?_
      refine z_iload_n hC dX7_voyage_30 rfl ?_
      refine z_callV hC [.int (iZ k), .int (iZ c)] 2 rfl dX7_voyage_31 (fun l => m_X2_hindrance l G ca ad _ μ 0 zb_0 d hX.1 k c hB (by omega) (by omega) (hG _ (by omega))) qM_X7_186 qI_X2_hindrance qS_X2_hindrance qi_X2 qC_X2_hindrance (by decide +kernel) (by decide) (by decide) (cl_desk zb_0) (cd_desk (ca := ca) (ad := ad) zb_0) rfl (Nat.le_of_ble_eq_true rfl) (zk_int (fun μ5 hμ5 => ?_)) rfl
      obtain ⟨hμ5f, hμ50, hμ51, hμ52, hμ53, hμ54, hμ55, hμ56, hμ57⟩ := id hμ5
      have hd6 : vw μ5 0 = d := by rw [vw_fr5 hμ5f]; exact hX.1
      refine z_istore hC dX7_voyage_34 (by decide) rfl ?_
      refine z_aload_n hC dX7_voyage_36 rfl ?_
      refine z_get hC iA_X7 rfl 0 (by decide) qF_X7_10 rfl dX7_voyage_37 cl_main (cd_main (ca := ca) (ad := ad)) rfl ?_
      refine z_get hC iA_X2 rfl 8 (by decide) qF_X7_189 rfl dX7_voyage_40 (cl_desk zb_0) (cd_desk (ca := ca) (ad := ad) zb_0) rfl ?_
      refine z_astore hC dX7_voyage_43 (by decide) rfl ?_
      refine z_iload_n hC dX7_voyage_45 rfl ?_
      rcases (show w = 0 ∨ w = 1 ∨ w = 2 ∨ w = 3 ∨ w = 4 ∨ (w < 0 ∨ 4 < w) by omega) with w_7 | w_7 | w_7 | w_7 | w_7 | w_7
      · refine z_tableIn hC 80 dX7_voyage_46 (by omega) (by omega) (by omega) (by rw [w_7]; rfl) (by decide) ?_
        refine z_iload hC dX7_voyage_80 rfl ?_
        exact z_iret hC dX7_voyage_82 ⟨by unfold qVoy; rw [if_pos (by omega)], zSt_5 hX hμ5f⟩
      · exfalso; omega
      · refine z_tableIn hC 89 dX7_voyage_46 (by omega) (by omega) (by omega) (by rw [w_7]; rfl) (by decide) ?_
        refine z_aload hC dX7_voyage_89 rfl ?_
        refine z_get hC iA_X1 rfl 4 (by decide) qF_X7_193 rfl dX7_voyage_91 (cl_course zb_0) (cd_course (ca := ca) (ad := ad) zb_0) rfl ?_
        refine z_top (b := sFree d k c (sEnd d k).1 (sEnd d k).2.1 - (sEnd d k).2.1) (by rw [hμ54]) ?_
        exact z_iret hC dX7_voyage_94 ⟨by unfold qVoy; rw [if_neg (by omega)], zSt_5 hX hμ5f⟩
      · exfalso; omega
      · exfalso; omega
      · exfalso; omega
    · exfalso; omega

set_option maxHeartbeats 4000000 in
set_option maxRecDepth 100000 in
/-- plan(4) -/
theorem m_X7_plan (l : Launch) (G : va_G) (ca : Nat → ClassId) (ad : Int → Nat) (A : Nat → Prop) (μ : zM) (d : zM) (n : Int) (h : Int → zM) (L : Int) (t : Int → Int) (hX : zSt μ d n h L t) : zMet l (cω G ca ad) A yX7_plan cX7_plan 6 (some .int) 1 22 [.ref (ad 156), .int (iZ 4)] μ (zpI (.int (iZ (-1000001))) (fun μ' => zSt μ' d n h L t)) := by
  refine zMet_of (by decide) (Nat.le_of_ble_eq_true rfl) (fun Γ hC => ?_)
  show Z Γ _ μ 0 [(0, .ref (ad 156)), (1, .int (iZ 4))] []
  refine z_iload_n hC dX7_plan_0 rfl ?_
  refine z_iconst hC dX7_plan_1 ?_
  refine z_iconst hC dX7_plan_2 ?_
  refine z_callS hC [.int (iZ 4), .int (iZ 0), .int (iZ 3)] 3 rfl dX7_plan_3 (fun l => m_X7_isIn l _ _ _ 4 0 3 (by omega) (by omega) (by omega)) qM_X7_156 qT_X7_isIn qi_X7 qC_X7_isIn (by decide +kernel) (by decide) (by decide) (Nat.le_of_ble_eq_true rfl) (zk_pure ?_) rfl
  refine z_ifb_ne hC 12 dX7_plan_6 (by decide) (fun c_1 => ?_) (fun c_1 => ?_)
  · exfalso; omega
  · refine z_ldc hC (-1000001) qc_X7_77 rfl dX7_plan_9 ?_
    exact z_iret hC dX7_plan_11 ⟨rfl, hX⟩
end
section
/-! WHAT THE LAW ASKS BESIDE THE INVARIANT: as many cargoes are fixed as the ships have fixtures; a fixture's cargo knows its ship and fits it -/
def sFx (d : zM) : Nat → Int
  | 0 => 0
  | n + 1 => sFx d n + d (6 + (n : Int)) 6
def zSum (d : zM) : Prop := sCnt d 1 (d 0 5).toNat = sFx d (d 0 4).toNat
def zFit (d : zM) : Prop := ∀ k, 0 ≤ k ∧ k < d 0 4 → ∀ x, 0 ≤ x ∧ x < d (6 + k) 6 → d (16 + d (11 + k) x) 7 = k ∧ d (16 + d (11 + k) x) 0 ≤ d (6 + k) 0
def zIn2 (d : zM) : Prop := zInv d ∧ zSum d ∧ zFit d
theorem sCnt_cg {d d' : zM} {st : Int} : ∀ n : Nat, (∀ c : Int, 0 ≤ c ∧ c < (n : Int) → d' (16 + c) 6 = d (16 + c) 6) → sCnt d' st n = sCnt d st n := by
  intro n
  induction n with
  | zero => intro _; rfl
  | succ n ih =>
    intro h
    show sCnt d' st n + (if d' (16 + (n : Int)) 6 = st then 1 else 0) = sCnt d st n + (if d (16 + (n : Int)) 6 = st then 1 else 0)
    rw [ih (fun c hc => h c (by omega)), h (n : Int) (by omega)]
theorem sCnt_up {d : zM} {st c v : Int} (h0 : 0 ≤ c) : ∀ n : Nat, c < (n : Int) → sCnt (zup d (16 + c) 6 v) st n = sCnt d st n + (if v = st then 1 else 0) - (if d (16 + c) 6 = st then 1 else 0) := by
  intro n
  induction n with
  | zero => intro h; exact absurd h (by omega)
  | succ n ih =>
    intro h
    show sCnt (zup d (16 + c) 6 v) st n + (if zup d (16 + c) 6 v (16 + (n : Int)) 6 = st then 1 else 0) = sCnt d st n + (if d (16 + (n : Int)) 6 = st then 1 else 0) + (if v = st then 1 else 0) - (if d (16 + c) 6 = st then 1 else 0)
    by_cases q : c = (n : Int)
    · rw [sCnt_cg (d' := zup d (16 + c) 6 v) (d := d) n (fun c' hc' => zup_n (by omega)), ← q, zup_s]
      generalize (if v = st then (1 : Int) else 0) = A
      generalize (if d (16 + c) 6 = st then (1 : Int) else 0) = B
      omega
    · rw [ih (by omega), zup_n (by omega)]
      generalize (if v = st then (1 : Int) else 0) = A
      generalize (if d (16 + c) 6 = st then (1 : Int) else 0) = B
      generalize (if d (16 + (n : Int)) 6 = st then (1 : Int) else 0) = C
      omega
theorem sFx_cg {d d' : zM} : ∀ n : Nat, (∀ k : Int, 0 ≤ k ∧ k < (n : Int) → d' (6 + k) 6 = d (6 + k) 6) → sFx d' n = sFx d n := by
  intro n
  induction n with
  | zero => intro _; rfl
  | succ n ih =>
    intro h
    show sFx d' n + d' (6 + (n : Int)) 6 = sFx d n + d (6 + (n : Int)) 6
    rw [ih (fun k hk => h k (by omega)), h (n : Int) (by omega)]
theorem sFx_up {d d' : zM} {k : Int} (h0 : 0 ≤ k) : ∀ n : Nat, k < (n : Int) → (∀ j : Int, 0 ≤ j ∧ j < (n : Int) → j ≠ k → d' (6 + j) 6 = d (6 + j) 6) → sFx d' n = sFx d n + d' (6 + k) 6 - d (6 + k) 6 := by
  intro n
  induction n with
  | zero => intro h; exact absurd h (by omega)
  | succ n ih =>
    intro h hj
    show sFx d' n + d' (6 + (n : Int)) 6 = sFx d n + d (6 + (n : Int)) 6 + d' (6 + k) 6 - d (6 + k) 6
    by_cases q : k = (n : Int)
    · rw [sFx_cg (d' := d') (d := d) n (fun j h9 => hj j (by omega) (by omega)), ← q]
      omega
    · rw [ih (by omega) (fun j h9 => hj j (by omega)), hj (n : Int) (by omega) (by omega)]
      omega
theorem sCnt_drop {k st : Int} {N : Nat} (hk : 0 ≤ k ∧ k < 5) (hst : st ≠ 1) : ∀ (r : Nat) (x : Int) (d : zM), (∀ j, x ≤ j ∧ j < x + (r : Int) → (0 ≤ d (11 + k) j ∧ d (11 + k) j < (N : Int)) ∧ d (16 + d (11 + k) j) 6 = 1) → (∀ i j, x ≤ i ∧ i < x + (r : Int) → x ≤ j ∧ j < x + (r : Int) → d (11 + k) i = d (11 + k) j → i = j) → sCnt (sDrop k st r x d) 1 N = sCnt d 1 N - (r : Int) := by
  intro r
  induction r with
  | zero => intro x d _ _; show sCnt d 1 N = sCnt d 1 N - ((0 : Nat) : Int); omega
  | succ r ih =>
    intro x d h hi
    have h0 := h x (by omega)
    have e : ∀ j, zup d (16 + d (11 + k) x) 6 st (11 + k) j = d (11 + k) j := fun j => zup_n (by omega)
    have hh := ih (x + 1) (zup d (16 + d (11 + k) x) 6 st) (fun j hj => by
      have hj0 := h j (by omega)
      rw [e]
      refine ⟨hj0.1, ?_⟩
      rw [zup_n (Or.inl (fun q => by
        have := hi j x (by omega) (by omega) (by omega)
        omega))]
      exact hj0.2) (fun i j hi1 hj1 q => by
      rw [e, e] at q
      exact hi i j (by omega) (by omega) q)
    have hu := sCnt_up (d := d) (st := 1) (v := st) h0.1.1 N h0.1.2
    rw [if_neg hst, if_pos h0.2] at hu
    show sCnt (sDrop k st r (x + 1) (zup d (16 + d (11 + k) x) 6 st)) 1 N = sCnt d 1 N - ((r + 1 : Nat) : Int)
    rw [hh, hu]
    omega
theorem in2_drop {d D1 d4 : zM} {k T st : Int} {r : Nat} (H : zIn2 d) (hk : 0 ≤ k ∧ k < d 0 4) (hT : 0 ≤ T) (hr : T + (r : Int) = d (6 + k) 6) (hst : st ≠ 1)
    (e1 : ∀ o i, o ≠ 6 + k → o ≠ 0 → D1 o i = d o i) (e4 : ∀ o i, o ≠ 6 + k → o ≠ 0 → d4 o i = sDrop k st r T D1 o i)
    (e0 : d4 (6 + k) 0 = d (6 + k) 0) (e6 : d4 (6 + k) 6 = T) (eS : d4 0 4 = d 0 4) (eC : d4 0 5 = d 0 5) : zSum d4 ∧ zFit d4 := by
  obtain ⟨HI, hsum, hfit⟩ := H
  have hN4 := HI.1.1.1
  have hN5 := HI.1.1.2
  have hk5 : 0 ≤ k ∧ k < 5 := by omega
  have hF := zInv_F HI k hk
  have hS := HI.2.2.2.2.1 k hk
  have x1 : ∀ j, D1 (11 + k) j = d (11 + k) j := fun j => e1 (11 + k) j (by omega) (by omega)
  have hx : ∀ j : Int, T ≤ j ∧ j < T + (r : Int) → 0 ≤ D1 (11 + k) j := fun j hj => by rw [x1]; exact (hF j (by omega)).1
  have old : ∀ o i, o < 16 → o ≠ 6 + k → o ≠ 0 → d4 o i = d o i := fun o i h1 h2 h3 => by
    rw [e4 o i h2 h3, sDrop_o r T D1 o i h1 hx hk5.2, e1 o i h2 h3]
  have crg : ∀ c i, 0 ≤ c → i ≠ 6 → d4 (16 + c) i = d (16 + c) i := fun c i h1 h2 => by
    rw [e4 (16 + c) i (by omega) (by omega), sDrop_n hk5 r T D1 (fun j hj => ⟨hx j hj, Or.inl h2⟩), e1 (16 + c) i (by omega) (by omega)]
  constructor
  · have a1 := sCnt_cg (d' := d4) (d := sDrop k st r T D1) (st := 1) (d 0 5).toNat (fun c hc => e4 (16 + c) 6 (by omega) (by omega))
    have a2 := sCnt_drop (N := (d 0 5).toNat) hk5 hst r T D1 (fun j hj => by
      have f := hF j (by omega)
      rw [x1, e1 (16 + d (11 + k) j) 6 (by omega) (by omega)]
      exact ⟨⟨f.1, by omega⟩, hS j (by omega)⟩) (fun i j hi hj q => by
      rw [x1, x1] at q
      exact (HI.2.2.2.2.2.1 k k i j hk hk (by omega) (by omega) q).2)
    have a3 := sCnt_cg (d' := D1) (d := d) (st := 1) (d 0 5).toNat (fun c hc => e1 (16 + c) 6 (by omega) (by omega))
    have a4 := sFx_up (d := d) (d' := d4) hk.1 (d 0 4).toNat (by omega) (fun j hj q => old (6 + j) 6 (by omega) (by omega) (by omega))
    unfold zSum at hsum ⊢
    rw [eS, eC]
    omega
  · intro j hj x hx2
    rw [eS] at hj
    have hx3 : 0 ≤ x ∧ x < d (6 + j) 6 := by
      by_cases q : j = k
      · rw [q, e6] at hx2
        rw [q]
        omega
      · rw [old (6 + j) 6 (by omega) (by omega) (by omega)] at hx2
        exact hx2
    have f := zInv_F HI j hj x hx3
    have z6 : d4 (6 + j) 0 = d (6 + j) 0 := by
      by_cases q : j = k
      · rw [q]; exact e0
      · exact old (6 + j) 0 (by omega) (by omega) (by omega)
    rw [old (11 + j) x (by omega) (by omega) (by omega), crg _ 7 f.1 (by omega), crg _ 0 f.1 (by omega), z6]
    exact hfit j hj x hx3
theorem in2_ship {d : zM} (H : zIn2 d) (z v u p t : Int) : zIn2 (opShip d z v u p t).2 := by
  refine ⟨(inv_ship H.1 z v u p t).1, ?_⟩
  obtain ⟨HI, hsum, hfit⟩ := id H
  unfold opShip
  split
  · exact H.2
  split
  · exact H.2
  have hN4 := HI.1.1.1
  have hN5 := HI.1.1.2
  obtain ⟨d4, hd4⟩ : ∃ d4, d4 = zup (zup (zup (zup (zup (zup d (6 + d 0 4) 0 z) (6 + d 0 4) 1 v) (6 + d 0 4) 2 u) (6 + d 0 4) 3 p) (6 + d 0 4) 4 t) 0 4 (d 0 4 + 1) := ⟨_, rfl⟩
  show zSum (zup _ 0 4 (d 0 4 + 1)) ∧ zFit (zup _ 0 4 (d 0 4 + 1))
  rw [← hd4]
  have e : ∀ o i, (o ≠ 6 + d 0 4 ∨ 4 < i) → (o ≠ 0 ∨ i ≠ 4) → d4 o i = d o i := fun o i h1 h2 => by
    rw [hd4, zup_n (by omega), zup_n (by omega), zup_n (by omega), zup_n (by omega), zup_n (by omega), zup_n (by omega)]
  have eS : d4 0 4 = d 0 4 + 1 := by rw [hd4, zup_s]
  have h0 := (HI.2.1 (d 0 4) (by omega)).2
  constructor
  · unfold zSum at hsum ⊢
    rw [eS, e 0 5 (by omega) (by omega), sCnt_cg (d' := d4) (d := d) _ (fun c hc => e (16 + c) 6 (by omega) (by omega)), show (d 0 4 + 1).toNat = (d 0 4).toNat + 1 by omega]
    show _ = sFx d4 (d 0 4).toNat + d4 (6 + ((d 0 4).toNat : Int)) 6
    rw [Int.toNat_of_nonneg hN4.1, e (6 + d 0 4) 6 (by omega) (by omega), h0, sFx_cg (d' := d4) (d := d) _ (fun k hk => e (6 + k) 6 (by omega) (by omega))]
    omega
  · intro k hk x hx
    rw [eS] at hk
    rw [e (6 + k) 6 (by omega) (by omega)] at hx
    by_cases q : k = d 0 4
    · rw [q, h0] at hx
      omega
    · have f := zInv_F HI k (by omega) x hx
      rw [e (11 + k) x (by omega) (by omega), e (16 + d (11 + k) x) 7 (by omega) (by omega), e (16 + d (11 + k) x) 0 (by omega) (by omega), e (6 + k) 0 (by omega) (by omega)]
      exact hfit k (by omega) x hx
theorem in2_cargo {d : zM} (H : zIn2 d) (a g u f t w : Int) : zIn2 (opCargo d a g u f t w).2 := by
  refine ⟨(inv_cargo H.1 a g u f t w).1, ?_⟩
  obtain ⟨HI, hsum, hfit⟩ := id H
  unfold opCargo
  split
  · exact H.2
  split
  · exact H.2
  have hN4 := HI.1.1.1
  have hN5 := HI.1.1.2
  obtain ⟨d4, hd4⟩ : ∃ d4, d4 = zup (zup (zup (zup (zup (zup (zup d (16 + d 0 5) 0 a) (16 + d 0 5) 1 g) (16 + d 0 5) 2 u) (16 + d 0 5) 3 f) (16 + d 0 5) 4 t) (16 + d 0 5) 5 w) 0 5 (d 0 5 + 1) := ⟨_, rfl⟩
  show zSum (zup _ 0 5 (d 0 5 + 1)) ∧ zFit (zup _ 0 5 (d 0 5 + 1))
  rw [← hd4]
  have e : ∀ o i, (o ≠ 16 + d 0 5 ∨ 5 < i) → (o ≠ 0 ∨ i ≠ 5) → d4 o i = d o i := fun o i h1 h2 => by
    rw [hd4, zup_n (by omega), zup_n (by omega), zup_n (by omega), zup_n (by omega), zup_n (by omega), zup_n (by omega), zup_n (by omega)]
  have eC : d4 0 5 = d 0 5 + 1 := by rw [hd4, zup_s]
  have h0 := HI.2.2.1 (d 0 5) (by omega)
  constructor
  · unfold zSum at hsum ⊢
    rw [eC, e 0 4 (by omega) (by omega), sFx_cg (d' := d4) (d := d) _ (fun k hk => e (6 + k) 6 (by omega) (by omega)), show (d 0 5 + 1).toNat = (d 0 5).toNat + 1 by omega]
    show sCnt d4 1 (d 0 5).toNat + (if d4 (16 + ((d 0 5).toNat : Int)) 6 = 1 then 1 else 0) = _
    rw [Int.toNat_of_nonneg hN5.1, e (16 + d 0 5) 6 (by omega) (by omega), h0, if_neg (by omega), sCnt_cg (d' := d4) (d := d) _ (fun c hc => e (16 + c) 6 (by omega) (by omega))]
    omega
  · intro k hk x hx
    rw [e 0 4 (by omega) (by omega)] at hk
    rw [e (6 + k) 6 (by omega) (by omega)] at hx
    have f := zInv_F HI k hk x hx
    rw [e (11 + k) x (by omega) (by omega), e (16 + d (11 + k) x) 7 (by omega) (by omega), e (16 + d (11 + k) x) 0 (by omega) (by omega), e (6 + k) 0 (by omega) (by omega)]
    exact hfit k hk x hx
/-- what fixing answers, and what the desk is then -/
theorem fx_ok {d : zM} {k c : Int} (hk : 0 ≤ k ∧ k < d 0 4) (hc : 0 ≤ c ∧ c < d 0 5) (h : d (16 + c) 6 = 0 ∧ sCould d k c = 0) : opFix d k c = (sFree d k c (sEnd d k).1 (sEnd d k).2.1, zup (zup (zup (zup d (11 + k) (d (6 + k) 6) c) (6 + k) 6 (d (6 + k) 6 + 1)) (16 + c) 6 1) (16 + c) 7 k) := by
  unfold opFix
  rw [if_neg (fun z => z ⟨hk, hc⟩), if_neg (fun z => z h)]
theorem fx_no {d : zM} {k c : Int} (hk : 0 ≤ k ∧ k < d 0 4) (hc : 0 ≤ c ∧ c < d 0 5) (h : ¬ (d (16 + c) 6 = 0 ∧ sCould d k c = 0)) : opFix d k c = (-1000002, d) := by
  unfold opFix
  rw [if_neg (fun z => z ⟨hk, hc⟩), if_pos h]
theorem fx_bad {d : zM} {k c : Int} (h : ¬ ((0 ≤ k ∧ k < d 0 4) ∧ (0 ≤ c ∧ c < d 0 5))) : opFix d k c = (-1000001, d) := by
  unfold opFix
  rw [if_pos h]
theorem in2_fix {d : zM} (H : zIn2 d) (k c : Int) : zIn2 (opFix d k c).2 ∧ (opFix d k c).2 0 4 = d 0 4 ∧ (opFix d k c).2 0 5 = d 0 5 := by
  by_cases q1 : (0 ≤ k ∧ k < d 0 4) ∧ (0 ≤ c ∧ c < d 0 5)
  · obtain ⟨hk, hc⟩ := q1
    by_cases q2 : d (16 + c) 6 = 0 ∧ sCould d k c = 0
    · have hz := (inv_fix H.1 k c).1
      obtain ⟨HI, hsum, hfit⟩ := id H
      rw [fx_ok hk hc q2] at hz ⊢
      obtain ⟨d4, hd4⟩ : ∃ d4, d4 = zup (zup (zup (zup d (11 + k) (d (6 + k) 6) c) (6 + k) 6 (d (6 + k) 6 + 1)) (16 + c) 6 1) (16 + c) 7 k := ⟨_, rfl⟩
      rw [← hd4] at hz ⊢
      show zIn2 d4 ∧ d4 0 4 = d 0 4 ∧ d4 0 5 = d 0 5
      change zInv d4 at hz
      have hN4 := HI.1.1.1
      have hN5 := HI.1.1.2
      have hs := (HI.1.2.2.1 k hk).2.2.2.2.2
      have e : ∀ o i, (o ≠ 11 + k ∨ i ≠ d (6 + k) 6) → (o ≠ 6 + k ∨ i ≠ 6) → (o ≠ 16 + c ∨ (i ≠ 6 ∧ i ≠ 7)) → d4 o i = d o i := fun o i h1 h2 h3 => by
        rw [hd4, zup_n (by omega), zup_n (by omega), zup_n (by omega), zup_n (by omega)]
      have eS : d4 0 4 = d 0 4 := e 0 4 (by omega) (by omega) (by omega)
      have eC : d4 0 5 = d 0 5 := e 0 5 (by omega) (by omega) (by omega)
      have e6 : d4 (6 + k) 6 = d (6 + k) 6 + 1 := by rw [hd4, zup_n (by omega), zup_n (by omega), zup_s]
      have e7 : d4 (16 + c) 7 = k := by rw [hd4, zup_s]
      have ex : d4 (11 + k) (d (6 + k) 6) = c := by rw [hd4, zup_n (by omega), zup_n (by omega), zup_n (by omega), zup_s]
      refine ⟨⟨hz, ?_, ?_⟩, eS, eC⟩
      · have a1 := sCnt_up (d := d) (st := 1) (v := 1) hc.1 (d 0 5).toNat (by omega)
        rw [if_pos rfl, if_neg (by omega)] at a1
        have a2 := sCnt_cg (d' := d4) (d := zup d (16 + c) 6 1) (st := 1) (d 0 5).toNat (fun c' hc' => by
          by_cases q : c' = c
          · rw [q, zup_s, hd4, zup_n (by omega), zup_s]
          · rw [zup_n (by omega)]
            exact e (16 + c') 6 (by omega) (by omega) (by omega))
        have a3 := sFx_up (d := d) (d' := d4) hk.1 (d 0 4).toNat (by omega) (fun j hj q => e (6 + j) 6 (by omega) (by omega) (by omega))
        unfold zSum at hsum ⊢
        rw [eS, eC]
        omega
      · intro j hj x hx
        rw [eS] at hj
        by_cases q : j = k ∧ x = d (6 + k) 6
        · rw [q.1, q.2, ex, e7, e (16 + c) 0 (by omega) (by omega) (by omega), e (6 + k) 0 (by omega) (by omega) (by omega)]
          refine ⟨rfl, ?_⟩
          have := q2.2
          unfold sCould at this
          split at this
          · omega
          · omega
        · have hx3 : 0 ≤ x ∧ x < d (6 + j) 6 := by
            by_cases z : j = k
            · rw [z, e6] at hx
              rw [z]
              omega
            · rw [e (6 + j) 6 (by omega) (by omega) (by omega)] at hx
              exact hx
          have f := zInv_F HI j hj x hx3
          have g := HI.2.2.2.2.1 j hj x hx3
          have hne : d (11 + j) x ≠ c := fun z => by rw [z] at g; omega
          rw [e (11 + j) x (by omega) (by omega) (by omega), e (16 + d (11 + j) x) 7 (by omega) (by omega) (by omega), e (16 + d (11 + j) x) 0 (by omega) (by omega) (by omega), e (6 + j) 0 (by omega) (by omega) (by omega)]
          exact hfit j hj x hx3
    · rw [fx_no hk hc q2]
      exact ⟨H, rfl, rfl⟩
  · rw [fx_bad q1]
    exact ⟨H, rfl, rfl⟩
/-- what a delay answers, and what the desk is then -/
theorem dl_late {d : zM} {k n : Int} (hk : 0 ≤ k ∧ k < d 0 4) (hn : 1 ≤ n ∧ n ≤ 99) (h : 1999 < d (6 + k) 4 + n) : opDelay d k n = (-1000003, d) := by
  unfold opDelay
  rw [if_neg (fun z => z ⟨hk, hn⟩), if_pos h]
theorem dl_ok {d : zM} {k n : Int} (hk : 0 ≤ k ∧ k < d 0 4) (hn : 1 ≤ n ∧ n ≤ 99) (h : ¬ 1999 < d (6 + k) 4 + n) : opDelay d k n = (d (6 + k) 6 - (sInT (sLater d k n) k : Int), zup (zup (sDrop k 2 (sNum d k - sInT (sLater d k n) k) (sInT (sLater d k n) k : Int) (sLater d k n)) (6 + k) 6 (sInT (sLater d k n) k : Int)) 0 6 (d 0 6 + (d (6 + k) 6 - (sInT (sLater d k n) k : Int)))) := by
  unfold opDelay
  rw [if_neg (fun z => z ⟨hk, hn⟩), if_neg h]
theorem in2_delay {d : zM} (H : zIn2 d) {k n : Int} (hk : 0 ≤ k ∧ k < d 0 4) (hn : 1 ≤ n ∧ n ≤ 99) (h : ¬ 1999 < d (6 + k) 4 + n) :
    zIn2 (opDelay d k n).2 ∧ ((opDelay d k n).2 0 4 = d 0 4 ∧ (opDelay d k n).2 0 5 = d 0 5) ∧ (0 ≤ (opDelay d k n).1 ∧ (opDelay d k n).1 ≤ d (6 + k) 6) ∧ (opDelay d k n).2 0 6 = d 0 6 + (opDelay d k n).1 ∧ (opDelay d k n).2 (6 + k) 6 = d (6 + k) 6 - (opDelay d k n).1 ∧ (0 < d (6 + k) 6 → ((opDelay d k n).1 = 0 ↔ n ≤ sL d k (sNum d k))) := by
  have hz := (inv_delay H.1 k n).1
  obtain ⟨HI, hsum, hfit⟩ := id H
  have hN4 := HI.1.1.1
  have hk5 : 0 ≤ k ∧ k < 5 := by omega
  have hs := (HI.1.2.2.1 k hk).2.2.2.2.2
  have hNe := sNum_e (d := d) (k := k) hs.1
  have hT := sInT_b (sLater d k n) k
  rw [sLat_n] at hT
  have hF := zInv_F HI k hk
  have hsl : 0 < d (6 + k) 6 → (d (6 + k) 6 - (sInT (sLater d k n) k : Int) = 0 ↔ n ≤ sL d k (sNum d k)) := fun h9 => by
    rw [← sSlk HI hk (by omega) (by omega)]
    omega
  rw [dl_ok hk hn h] at hz ⊢
  generalize sInT (sLater d k n) k = T at hT hsl hz ⊢
  obtain ⟨D1, hD1⟩ : ∃ D1, D1 = sLater d k n := ⟨_, rfl⟩
  rw [← hD1] at hz ⊢
  have e1 : ∀ o i, (o ≠ 6 + k ∨ i ≠ 4) → D1 o i = d o i := fun o i h => by rw [hD1]; exact sLat_e h
  obtain ⟨d4, hd4⟩ : ∃ d4, d4 = zup (zup (sDrop k 2 (sNum d k - T) (T : Int) D1) (6 + k) 6 (T : Int)) 0 6 (d 0 6 + (d (6 + k) 6 - (T : Int))) := ⟨_, rfl⟩
  rw [← hd4] at hz ⊢
  show zIn2 d4 ∧ (d4 0 4 = d 0 4 ∧ d4 0 5 = d 0 5) ∧ (0 ≤ d (6 + k) 6 - (T : Int) ∧ d (6 + k) 6 - (T : Int) ≤ d (6 + k) 6) ∧ d4 0 6 = d 0 6 + (d (6 + k) 6 - (T : Int)) ∧ d4 (6 + k) 6 = d (6 + k) 6 - (d (6 + k) 6 - (T : Int)) ∧ (0 < d (6 + k) 6 → (d (6 + k) 6 - (T : Int) = 0 ↔ n ≤ sL d k (sNum d k)))
  change zInv d4 at hz
  have hx : ∀ j : Int, (T : Int) ≤ j ∧ j < (T : Int) + ((sNum d k - T : Nat) : Int) → 0 ≤ D1 (11 + k) j := fun j hj => by
    rw [e1 (11 + k) j (by omega)]
    exact (hF j (by omega)).1
  have o1 : ∀ o i, o < 16 → (o ≠ 6 + k ∨ (i ≠ 4 ∧ i ≠ 6)) → (o ≠ 0 ∨ i ≠ 6) → d4 o i = d o i := fun o i h1 h2 h3 => by
    rw [hd4, zup_n (by omega), zup_n (by omega), sDrop_o _ _ D1 o i h1 hx hk5.2, e1 o i (by omega)]
  have e6 : d4 (6 + k) 6 = (T : Int) := by rw [hd4, zup_n (by omega), zup_s]
  have eS : d4 0 4 = d 0 4 := o1 0 4 (by omega) (by omega) (by omega)
  have eC : d4 0 5 = d 0 5 := o1 0 5 (by omega) (by omega) (by omega)
  refine ⟨⟨hz, in2_drop (D1 := D1) (T := (T : Int)) (st := 2) (r := sNum d k - T) H hk (by omega) (by omega) (by omega) (fun o i h1 h2 => e1 o i (by omega)) (fun o i h1 h2 => ?_) (o1 (6 + k) 0 (by omega) (by omega) (by omega)) e6 eS eC⟩, ⟨eS, eC⟩, by omega, ?_, ?_, hsl⟩
  · rw [hd4, zup_n (by omega), zup_n (by omega)]
  · rw [hd4, zup_s]
  · rw [e6]
    omega
/-- what calling off answers, and what the desk is then -/
theorem of_no {d : zM} {k : Int} (hk : 0 ≤ k ∧ k < d 0 4) (h : d (6 + k) 6 = 0) : opOff d k = (-1000002, d) := by
  unfold opOff
  rw [if_neg (fun z => z hk), if_pos h]
theorem of_ok {d : zM} {k : Int} (hk : 0 ≤ k ∧ k < d 0 4) (h : ¬ d (6 + k) 6 = 0) : opOff d k = (sPay d (d (11 + k) (d (6 + k) 6 - 1)), zup (zup (zup (sDrop k 0 1 (d (6 + k) 6 - 1) d) (6 + k) 6 (d (6 + k) 6 - 1)) (6 + k) 5 (d (6 + k) 5 - sPay d (d (11 + k) (d (6 + k) 6 - 1)))) 0 7 (d 0 7 + 1)) := by
  unfold opOff
  rw [if_neg (fun z => z hk), if_neg h]
theorem in2_off {d : zM} (H : zIn2 d) {k c : Int} (hk : 0 ≤ k ∧ k < d 0 4) (h : 0 < d (6 + k) 6) (hc : c = d (11 + k) (d (6 + k) 6 - 1)) :
    zIn2 (opOff d k).2 ∧ ((opOff d k).2 0 4 = d 0 4 ∧ (opOff d k).2 0 5 = d 0 5) ∧ (opOff d k).1 = sPay d c ∧ (opOff d k).2 (6 + k) 5 = d (6 + k) 5 - sPay d c ∧ (opOff d k).2 (16 + c) 6 = 0 ∧ (opOff d k).2 0 7 = d 0 7 + 1 ∧ sCould (opOff d k).2 k c = 0 := by
  have hz := (inv_off H.1 k).1
  obtain ⟨HI, hsum, hfit⟩ := id H
  have hN4 := HI.1.1.1
  have hk5 : 0 ≤ k ∧ k < 5 := by omega
  have hs := (HI.1.2.2.1 k hk).2.2.2.2.2
  have hNe := sNum_e (d := d) (k := k) hs.1
  have hF := zInv_F HI k hk
  have hcr := hF (d (6 + k) 6 - 1) (by omega)
  rw [← hc] at hcr
  have hft := hfit k hk (d (6 + k) 6 - 1) (by omega)
  rw [← hc] at hft
  rw [of_ok hk (by omega)] at hz ⊢
  rw [← hc] at hz ⊢
  generalize hT : d (6 + k) 6 - 1 = T at hc hz ⊢
  obtain ⟨d4, hd4⟩ : ∃ d4, d4 = zup (zup (zup (sDrop k 0 1 T d) (6 + k) 6 T) (6 + k) 5 (d (6 + k) 5 - sPay d c)) 0 7 (d 0 7 + 1) := ⟨_, rfl⟩
  rw [← hd4] at hz ⊢
  show zIn2 d4 ∧ (d4 0 4 = d 0 4 ∧ d4 0 5 = d 0 5) ∧ sPay d c = sPay d c ∧ d4 (6 + k) 5 = d (6 + k) 5 - sPay d c ∧ d4 (16 + c) 6 = 0 ∧ d4 0 7 = d 0 7 + 1 ∧ sCould d4 k c = 0
  change zInv d4 at hz
  have hx : ∀ j : Int, T ≤ j ∧ j < T + ((1 : Nat) : Int) → 0 ≤ d (11 + k) j := fun j hj => (hF j (by omega)).1
  have o1 : ∀ o i, o < 16 → (o ≠ 6 + k ∨ (i ≠ 5 ∧ i ≠ 6)) → (o ≠ 0 ∨ i ≠ 7) → d4 o i = d o i := fun o i h1 h2 h3 => by
    rw [hd4, zup_n (by omega), zup_n (by omega), zup_n (by omega), sDrop_o _ _ d o i h1 hx hk5.2]
  have oc : ∀ c' i, 0 ≤ c' → i ≠ 6 → d4 (16 + c') i = d (16 + c') i := fun c' i h1 h2 => by
    rw [hd4, zup_n (by omega), zup_n (by omega), zup_n (by omega), sDrop_n hk5 1 T d (fun j hj => ⟨hx j hj, Or.inl h2⟩)]
  have e6 : d4 (6 + k) 6 = T := by rw [hd4, zup_n (by omega), zup_n (by omega), zup_s]
  have e5 : d4 (6 + k) 5 = d (6 + k) 5 - sPay d c := by rw [hd4, zup_n (by omega), zup_s]
  have eS : d4 0 4 = d 0 4 := o1 0 4 (by omega) (by omega) (by omega)
  have eC : d4 0 5 = d 0 5 := o1 0 5 (by omega) (by omega) (by omega)
  have ec : d4 (16 + c) 6 = 0 := by
    rw [hd4, zup_n (by omega), zup_n (by omega), zup_n (by omega)]
    show zup d (16 + d (11 + k) T) 6 0 (16 + c) 6 = 0
    rw [hc, zup_s]
  refine ⟨⟨hz, in2_drop (D1 := d) (T := T) (st := 0) (r := 1) H hk (by omega) (by omega) (by omega) (fun o i h1 h2 => rfl) (fun o i h1 h2 => ?_) (o1 (6 + k) 0 (by omega) (by omega) (by omega)) e6 eS eC⟩, ⟨eS, eC⟩, rfl, e5, ec, ?_, ?_⟩
  · rw [hd4, zup_n (by omega), zup_n (by omega), zup_n (by omega)]
  · rw [hd4, zup_s]
  · obtain ⟨N, hN⟩ : ∃ N : Nat, (N : Int) = T := ⟨T.toNat, by omega⟩
    have hsn : sNum d4 k = N := by unfold sNum; rw [e6]; omega
    have hal : zAlike d d4 k N := ⟨fun i => o1 1 i (by omega) (by omega) (by omega), fun i => o1 2 i (by omega) (by omega) (by omega), fun i hi => o1 (6 + k) i (by omega) (by omega) (by omega), fun n hn => o1 (11 + k) (n : Int) (by omega) (by omega) (by omega), fun n hn i hi => oc _ i (hF (n : Int) (by omega)).1 (by omega)⟩
    have hpos := sPos_al hal N (Nat.le_refl _)
    have hm := HI.2.2.2.2.2.2 k hk N (by omega)
    rw [hN, ← hc] at hm
    have hst := (sStp_cg (d := d) (d' := d4) (k := k) (c := c) (p := (sPos d k N).1) (t := (sPos d k N).2.1) hal.1 hal.2.1 hal.2.2.1 (fun i hi => oc c i hcr.1 (by omega))).2.2
    unfold sCould sEnd
    rw [hsn, hpos, hst, o1 (6 + k) 0 (by omega) (by omega) (by omega), oc c 0 hcr.1 (by omega), if_neg (by omega), if_neg (by omega)]
/-- what settling answers, and what the desk is then -/
theorem se_no {d : zM} {k : Int} (hk : 0 ≤ k ∧ k < d 0 4) (h : d (6 + k) 6 = 0) : opSettle d k = (-1000002, d) := by
  unfold opSettle
  rw [if_neg (fun z => z hk), if_pos h]
theorem se_ok {d : zM} {k : Int} (hk : 0 ≤ k ∧ k < d 0 4) (h : ¬ d (6 + k) 6 = 0) : opSettle d k = ((sEnd d k).2.2 + 1000000, zup (sDrop k 2 (sNum d k) 0 (zup (zup (zup d (6 + k) 5 (d (6 + k) 5 + (sEnd d k).2.2)) (6 + k) 3 (sEnd d k).1) (6 + k) 4 (sEnd d k).2.1)) (6 + k) 6 0) := by
  unfold opSettle
  rw [if_neg (fun z => z hk), if_neg h]
theorem in2_settle {d : zM} (H : zIn2 d) {k : Int} (hk : 0 ≤ k ∧ k < d 0 4) (h : 0 < d (6 + k) 6) :
    zIn2 (opSettle d k).2 ∧ ((opSettle d k).2 0 4 = d 0 4 ∧ (opSettle d k).2 0 5 = d 0 5) ∧ (opSettle d k).1 = (sEnd d k).2.2 + 1000000 ∧ (opSettle d k).2 (6 + k) 5 = d (6 + k) 5 + (sEnd d k).2.2 ∧ (opSettle d k).2 (6 + k) 3 = (sEnd d k).1 ∧ (opSettle d k).2 (6 + k) 4 = (sEnd d k).2.1 ∧ (opSettle d k).2 (6 + k) 6 = 0 := by
  have hz := (inv_settle H.1 k).1
  obtain ⟨HI, hsum, hfit⟩ := id H
  have hN4 := HI.1.1.1
  have hk5 : 0 ≤ k ∧ k < 5 := by omega
  have hs := (HI.1.2.2.1 k hk).2.2.2.2.2
  have hNe := sNum_e (d := d) (k := k) hs.1
  have hF := zInv_F HI k hk
  rw [se_ok hk (by omega)] at hz ⊢
  obtain ⟨D1, hD1⟩ : ∃ D1, D1 = zup (zup (zup d (6 + k) 5 (d (6 + k) 5 + (sEnd d k).2.2)) (6 + k) 3 (sEnd d k).1) (6 + k) 4 (sEnd d k).2.1 := ⟨_, rfl⟩
  rw [← hD1] at hz ⊢
  have e1 : ∀ o i, (o ≠ 6 + k ∨ i < 3 ∨ 5 < i) → D1 o i = d o i := fun o i h => by rw [hD1, zup_n (by omega), zup_n (by omega), zup_n (by omega)]
  have hx : ∀ j : Int, 0 ≤ j ∧ j < 0 + ((sNum d k : Nat) : Int) → 0 ≤ D1 (11 + k) j := fun j hj => by
    rw [e1 (11 + k) j (by omega)]
    exact (hF j (by omega)).1
  obtain ⟨d4, hd4⟩ : ∃ d4, d4 = zup (sDrop k 2 (sNum d k) 0 D1) (6 + k) 6 0 := ⟨_, rfl⟩
  rw [← hd4] at hz ⊢
  show zIn2 d4 ∧ (d4 0 4 = d 0 4 ∧ d4 0 5 = d 0 5) ∧ (sEnd d k).2.2 + 1000000 = (sEnd d k).2.2 + 1000000 ∧ d4 (6 + k) 5 = d (6 + k) 5 + (sEnd d k).2.2 ∧ d4 (6 + k) 3 = (sEnd d k).1 ∧ d4 (6 + k) 4 = (sEnd d k).2.1 ∧ d4 (6 + k) 6 = 0
  change zInv d4 at hz
  have o1 : ∀ o i, o < 16 → (o ≠ 6 + k ∨ i ≠ 6) → d4 o i = D1 o i := fun o i h1 h2 => by
    rw [hd4, zup_n (by omega), sDrop_o _ _ D1 o i h1 hx hk5.2]
  have e6 : d4 (6 + k) 6 = 0 := by rw [hd4, zup_s]
  have eS : d4 0 4 = d 0 4 := (o1 0 4 (by omega) (by omega)).trans (e1 0 4 (by omega))
  have eC : d4 0 5 = d 0 5 := (o1 0 5 (by omega) (by omega)).trans (e1 0 5 (by omega))
  refine ⟨⟨hz, in2_drop (D1 := D1) (T := 0) (st := 2) (r := sNum d k) H hk (by omega) (by omega) (by omega) (fun o i h1 h2 => e1 o i (by omega)) (fun o i h1 h2 => ?_) ((o1 (6 + k) 0 (by omega) (by omega)).trans (e1 (6 + k) 0 (by omega))) e6 eS eC⟩, ⟨eS, eC⟩, rfl, ?_, ?_, ?_, e6⟩
  · rw [hd4, zup_n (by omega)]
  · rw [o1 (6 + k) 5 (by omega) (by omega), hD1, zup_n (by omega), zup_n (by omega), zup_s]
  · rw [o1 (6 + k) 3 (by omega) (by omega), hD1, zup_n (by omega), zup_s]
  · rw [o1 (6 + k) 4 (by omega) (by omega), hD1, zup_s]
/-- the best cargo is open and could be fixed -/
theorem sRow_ok {d : zM} {k c0 : Int} {q : sQ} (h0 : q.1 = 0) (hc0 : 0 ≤ c0) : ∀ n : Nat, (sRow d k c0 n q).1 = 0 ∨ ((c0 ≤ (sRow d k c0 n q).2.2.1 ∧ (sRow d k c0 n q).2.2.1 < c0 + (n : Int)) ∧ d (16 + (sRow d k c0 n q).2.2.1) 6 = 0 ∧ sCould d k (sRow d k c0 n q).2.2.1 = 0) := by
  intro n
  induction n with
  | zero => exact Or.inl h0
  | succ n ih =>
    show (sStep d k (c0 + (n : Int)) (sRow d k c0 n q)).1 = 0 ∨ ((c0 ≤ (sStep d k (c0 + (n : Int)) (sRow d k c0 n q)).2.2.1 ∧ (sStep d k (c0 + (n : Int)) (sRow d k c0 n q)).2.2.1 < c0 + ((n + 1 : Nat) : Int)) ∧ d (16 + (sStep d k (c0 + (n : Int)) (sRow d k c0 n q)).2.2.1) 6 = 0 ∧ sCould d k (sStep d k (c0 + (n : Int)) (sRow d k c0 n q)).2.2.1 = 0)
    by_cases z : d (16 + (c0 + (n : Int))) 6 = 0 ∧ sCould d k (c0 + (n : Int)) = 0 ∧ ((sRow d k c0 n q).1 = 0 ∨ (sRow d k c0 n q).2.2.2 < sEa d k (c0 + (n : Int)))
    · rw [sStep_p z]
      right
      show (c0 ≤ c0 + (n : Int) ∧ c0 + (n : Int) < c0 + ((n + 1 : Nat) : Int)) ∧ d (16 + (c0 + (n : Int))) 6 = 0 ∧ sCould d k (c0 + (n : Int)) = 0
      exact ⟨by omega, z.1, z.2.1⟩
    · rw [sStep_n z]
      rcases ih with h | ⟨h1, h2⟩
      · exact Or.inl h
      · exact Or.inr ⟨by omega, h2⟩
theorem bestC_ok {d : zM} {k a b e : Int} (hk : 0 ≤ k ∧ k < d 0 4) (hC : 0 ≤ d 0 5) : qBestC d k (0, a, b, e) = -1000004 ∨ ((0 ≤ qBestC d k (0, a, b, e) ∧ qBestC d k (0, a, b, e) < d 0 5) ∧ d (16 + qBestC d k (0, a, b, e)) 6 = 0 ∧ sCould d k (qBestC d k (0, a, b, e)) = 0) := by
  unfold qBestC
  rw [if_neg (fun z => z hk)]
  have e1 : sAll d k 0 (d 0 5).toNat 1 (0, a, b, e) = sRow d k 0 (d 0 5).toNat (0, a, b, e) := by
    show sRow d (k + ((0 : Nat) : Int)) 0 (d 0 5).toNat (0, a, b, e) = _
    rw [show k + ((0 : Nat) : Int) = k by omega]
  rw [e1]
  have h := sRow_ok (d := d) (k := k) (c0 := 0) (q := (0, a, b, e)) rfl (Int.le_refl _) (d 0 5).toNat
  generalize sRow d k 0 (d 0 5).toNat (0, a, b, e) = q at h ⊢
  split
  · rcases h with h | ⟨h1, h2⟩
    · omega
    · exact Or.inr ⟨by omega, h2⟩
  · exact Or.inl rfl
/-- behind a change: what was kept -/
theorem keep_err {μ d : zM} {n L : Int} {h : Int → zM} {t : Int → Int} {r : Int × zM} (q : -1000004 ≤ r.1 ∧ r.1 ≤ -1000001) (H : zStK μ (sKeep r d n h) L t) : zSt μ d n h L t := by
  unfold sKeep at H
  rw [if_pos q] at H
  exact H
theorem keep_ok {μ d : zM} {n L : Int} {h : Int → zM} {t : Int → Int} {r : Int × zM} (q : 0 ≤ r.1) (H : zStK μ (sKeep r d n h) L t) : zSt μ r.2 (sPushN n) (sPushH n h d) L t := by
  unfold sKeep at H
  rw [if_neg (by omega)] at H
  exact H
theorem undo_ok {μ d : zM} {n L : Int} {h : Int → zM} {t : Int → Int} (hn : 0 ≤ n ∧ n ≤ 4) {d2 : zM} (H : zStK μ (opUndo d2 (sPushN n) (sPushH n h d)).2 L t) : zSt μ d (sPushN n - 1) (sPushH n h d) L t ∧ 0 ≤ (opUndo d2 (sPushN n) (sPushH n h d)).1 ∧ (opUndo d2 (sPushN n) (sPushH n h d)).1 ≤ 4 := by
  have hp : 1 ≤ sPushN n ∧ sPushN n ≤ 4 := by unfold sPushN; split <;> omega
  have e : sPushH n h d (sPushN n - 1) = d := by
    unfold sPushH sPushN
    by_cases q : n = 4
    · rw [if_pos q, if_pos q, if_pos (by omega)]
    · rw [if_neg q, if_neg q, if_pos (by omega)]
  unfold opUndo at H ⊢
  rw [if_pos hp.1] at H ⊢
  refine ⟨?_, by show 0 ≤ sPushN n - 1; omega, by show sPushN n - 1 ≤ 4; omega⟩
  have H2 : zSt μ (sPushH n h d (sPushN n - 1)) (sPushN n - 1) (sPushH n h d) L t := H
  rw [e] at H2
  exact H2
/-! the first state -/
theorem in0 : zIn2 d0 := by
  refine ⟨inv0, ?_, ?_⟩
  · unfold zSum
    rw [show d0 0 4 = 0 by decide +kernel, show d0 0 5 = 0 by decide +kernel]
    rfl
  · intro k hk
    rw [show d0 0 4 = 0 by decide +kernel] at hk
    omega
theorem stt0 : zSt mu0 d0 0 (fun _ => d0) 0 (fun _ => 0) := by
  refine ⟨rfl, ⟨⟨fun i hi => ?_, fun i j hi hj e => ?_⟩, rfl, by omega, fun i hi => absurd hi (by omega)⟩, rfl, by omega, fun i hi => absurd hi (by omega)⟩
  · rw [mu0_s]; omega
  · rw [mu0_s, mu0_s] at e; omega
theorem sh_ok {d : zM} {z v u p t : Int} (h : (1 ≤ z ∧ z ≤ 99) ∧ (1 ≤ v ∧ v ≤ 20) ∧ (1 ≤ u ∧ u ≤ 99) ∧ (0 ≤ p ∧ p ≤ 7) ∧ (0 ≤ t ∧ t ≤ 999)) (h5 : 0 ≤ d 0 4 ∧ d 0 4 < 5) : (opShip d z v u p t).1 = d 0 4 ∧ (opShip d z v u p t).2 0 4 = d 0 4 + 1 ∧ (opShip d z v u p t).2 0 5 = d 0 5 := by
  unfold opShip
  rw [if_neg (fun q => q h), if_neg (by omega)]
  refine ⟨rfl, ?_, ?_⟩
  · show (zup (zup (zup (zup (zup (zup d (6 + d 0 4) 0 z) (6 + d 0 4) 1 v) (6 + d 0 4) 2 u) (6 + d 0 4) 3 p) (6 + d 0 4) 4 t) 0 4 (d 0 4 + 1)) 0 4 = _
    rw [zup_s]
  · show (zup (zup (zup (zup (zup (zup d (6 + d 0 4) 0 z) (6 + d 0 4) 1 v) (6 + d 0 4) 2 u) (6 + d 0 4) 3 p) (6 + d 0 4) 4 t) 0 4 (d 0 4 + 1)) 0 5 = _
    rw [zup_n (by omega), zup_n (by omega), zup_n (by omega), zup_n (by omega), zup_n (by omega), zup_n (by omega)]
theorem cg_ok {d : zM} {a g u f t w : Int} (h : (1 ≤ a ∧ a ≤ 99) ∧ (0 ≤ g ∧ g ≤ 7) ∧ (0 ≤ u ∧ u ≤ 7) ∧ g ≠ u ∧ (0 ≤ f ∧ f ≤ 999) ∧ (f ≤ t ∧ t ≤ 999) ∧ (1 ≤ w ∧ w ≤ 99)) (h5 : 0 ≤ d 0 5 ∧ d 0 5 < 10) : (opCargo d a g u f t w).1 = d 0 5 ∧ (opCargo d a g u f t w).2 0 5 = d 0 5 + 1 ∧ (opCargo d a g u f t w).2 0 4 = d 0 4 := by
  unfold opCargo
  rw [if_neg (fun q => q h), if_neg (by omega)]
  refine ⟨rfl, ?_, ?_⟩
  · show (zup (zup (zup (zup (zup (zup (zup d (16 + d 0 5) 0 a) (16 + d 0 5) 1 g) (16 + d 0 5) 2 u) (16 + d 0 5) 3 f) (16 + d 0 5) 4 t) (16 + d 0 5) 5 w) 0 5 (d 0 5 + 1)) 0 5 = _
    rw [zup_s]
  · show (zup (zup (zup (zup (zup (zup (zup d (16 + d 0 5) 0 a) (16 + d 0 5) 1 g) (16 + d 0 5) 2 u) (16 + d 0 5) 3 f) (16 + d 0 5) 4 t) (16 + d 0 5) 5 w) 0 5 (d 0 5 + 1)) 0 4 = _
    rw [zup_n (by omega), zup_n (by omega), zup_n (by omega), zup_n (by omega), zup_n (by omega), zup_n (by omega), zup_n (by omega)]
theorem pt_no {d : zM} (h : ¬ sCnt d 1 (d 0 5).toNat = 0) : opPort d 0 1 1 = (-1000002, d) := by
  have := sCnt_b d 1 (d 0 5).toNat
  unfold opPort
  rw [if_neg (fun q => q (by decide)), if_pos (by omega)]
theorem dl_bad {d : zM} {k : Int} : opDelay d k 100 = (-1000001, d) := by
  unfold opDelay
  rw [if_pos (fun q => absurd q.2.2 (by decide))]
end
