section
-- ===== PART A: goes FIRST, ahead of the names: the tables' words, and 'selects' of the private methods out of them =====
/-- a private method of a class that the tables say can be made, by its rows of tables_1 -/
def lw_okq (q : MethodName × Nat) : Prop := (q.1.cls ≠ "java/lang/invoke/MethodHandle" ∧ q.1.cls ≠ "java/lang/invoke/VarHandle") ∧ Cond.instantiable q.1.cls q.2 ∈ tables_1 ∧ Cond.privateMethod q.1 ∈ tables_1 ∧ Cond.instanceMethod q.1 ∈ tables_1
theorem lw_p0 : lw_okq (⟨"ShipFixtures", "freshTrial", "()LShipFixtures$Desk;"⟩, 5) := ⟨⟨by decide +kernel, by decide +kernel⟩, List.mem_of_getElem? (i := 15) (by decide +kernel), List.mem_of_getElem? (i := 305) (by decide +kernel), List.mem_of_getElem? (i := 306) (by decide +kernel)⟩
theorem lw_p1 : lw_okq (⟨"ShipFixtures", "keep", "(I)I"⟩, 5) := ⟨⟨by decide +kernel, by decide +kernel⟩, List.mem_of_getElem? (i := 15) (by decide +kernel), List.mem_of_getElem? (i := 342) (by decide +kernel), List.mem_of_getElem? (i := 343) (by decide +kernel)⟩
theorem lw_p2 : lw_okq (⟨"ShipFixtures$History", "dropOldest", "()V"⟩, 2) := ⟨⟨by decide +kernel, by decide +kernel⟩, List.mem_of_getElem? (i := 219) (by decide +kernel), List.mem_of_getElem? (i := 355) (by decide +kernel), List.mem_of_getElem? (i := 356) (by decide +kernel)⟩
theorem lw_p3 : lw_okq (⟨"ShipFixtures$Desk", "sail", "(LShipFixtures$Ship;I)V"⟩, 12) := ⟨⟨by decide +kernel, by decide +kernel⟩, List.mem_of_getElem? (i := 23) (by decide +kernel), List.mem_of_getElem? (i := 405) (by decide +kernel), List.mem_of_getElem? (i := 406) (by decide +kernel)⟩
theorem lw_p4 : lw_okq (⟨"ShipFixtures$Desk", "fixturesInTime", "(I)I"⟩, 12) := ⟨⟨by decide +kernel, by decide +kernel⟩, List.mem_of_getElem? (i := 23) (by decide +kernel), List.mem_of_getElem? (i := 431) (by decide +kernel), List.mem_of_getElem? (i := 432) (by decide +kernel)⟩
theorem lw_p5 : lw_okq (⟨"ShipFixtures$Desk", "dropFixtures", "(LShipFixtures$Ship;II)V"⟩, 12) := ⟨⟨by decide +kernel, by decide +kernel⟩, List.mem_of_getElem? (i := 23) (by decide +kernel), List.mem_of_getElem? (i := 435) (by decide +kernel), List.mem_of_getElem? (i := 436) (by decide +kernel)⟩
theorem lw_p6 : lw_okq (⟨"ShipFixtures", "tryOrders", "()Z"⟩, 5) := ⟨⟨by decide +kernel, by decide +kernel⟩, List.mem_of_getElem? (i := 15) (by decide +kernel), List.mem_of_getElem? (i := 580) (by decide +kernel), List.mem_of_getElem? (i := 581) (by decide +kernel)⟩
theorem lw_p7 : lw_okq (⟨"ShipFixtures$Script", "at", "(I)C"⟩, 5) := ⟨⟨by decide +kernel, by decide +kernel⟩, List.mem_of_getElem? (i := 236) (by decide +kernel), List.mem_of_getElem? (i := 588) (by decide +kernel), List.mem_of_getElem? (i := 589) (by decide +kernel)⟩
theorem lw_p8 : lw_okq (⟨"ShipFixtures$Script", "readNumber", "(I)Z"⟩, 5) := ⟨⟨by decide +kernel, by decide +kernel⟩, List.mem_of_getElem? (i := 236) (by decide +kernel), List.mem_of_getElem? (i := 596) (by decide +kernel), List.mem_of_getElem? (i := 597) (by decide +kernel)⟩
theorem lw_p9 : lw_okq (⟨"ShipFixtures", "obey", "(C[I)I"⟩, 5) := ⟨⟨by decide +kernel, by decide +kernel⟩, List.mem_of_getElem? (i := 15) (by decide +kernel), List.mem_of_getElem? (i := 604) (by decide +kernel), List.mem_of_getElem? (i := 605) (by decide +kernel)⟩
theorem lw_p10 : lw_okq (⟨"ShipFixturesModel", "cargoes", "(I)I"⟩, 16) := ⟨⟨by decide +kernel, by decide +kernel⟩, List.mem_of_getElem? (i := 612) (by decide +kernel), List.mem_of_getElem? (i := 675) (by decide +kernel), List.mem_of_getElem? (i := 676) (by decide +kernel)⟩
theorem lw_p11 : lw_okq (⟨"ShipFixturesModel", "keeps", "()V"⟩, 16) := ⟨⟨by decide +kernel, by decide +kernel⟩, List.mem_of_getElem? (i := 612) (by decide +kernel), List.mem_of_getElem? (i := 683) (by decide +kernel), List.mem_of_getElem? (i := 684) (by decide +kernel)⟩
theorem lw_p12 : lw_okq (⟨"ShipFixturesModel", "copies", "(II)V"⟩, 16) := ⟨⟨by decide +kernel, by decide +kernel⟩, List.mem_of_getElem? (i := 612) (by decide +kernel), List.mem_of_getElem? (i := 687) (by decide +kernel), List.mem_of_getElem? (i := 688) (by decide +kernel)⟩
theorem lw_p13 : lw_okq (⟨"ShipFixturesModel", "acted", "(I)I"⟩, 16) := ⟨⟨by decide +kernel, by decide +kernel⟩, List.mem_of_getElem? (i := 612) (by decide +kernel), List.mem_of_getElem? (i := 691) (by decide +kernel), List.mem_of_getElem? (i := 692) (by decide +kernel)⟩
theorem lw_p14 : lw_okq (⟨"ShipFixturesModel", "doShip", "(IIIII)I"⟩, 16) := ⟨⟨by decide +kernel, by decide +kernel⟩, List.mem_of_getElem? (i := 612) (by decide +kernel), List.mem_of_getElem? (i := 699) (by decide +kernel), List.mem_of_getElem? (i := 700) (by decide +kernel)⟩
theorem lw_p15 : lw_okq (⟨"ShipFixturesModel", "doCargo", "(IIIIII)I"⟩, 16) := ⟨⟨by decide +kernel, by decide +kernel⟩, List.mem_of_getElem? (i := 612) (by decide +kernel), List.mem_of_getElem? (i := 711) (by decide +kernel), List.mem_of_getElem? (i := 712) (by decide +kernel)⟩
def lw_privs_1 : List (MethodName × Nat) := [(⟨"ShipFixtures", "freshTrial", "()LShipFixtures$Desk;"⟩, 5), (⟨"ShipFixtures", "keep", "(I)I"⟩, 5), (⟨"ShipFixtures$History", "dropOldest", "()V"⟩, 2), (⟨"ShipFixtures$Desk", "sail", "(LShipFixtures$Ship;I)V"⟩, 12), (⟨"ShipFixtures$Desk", "fixturesInTime", "(I)I"⟩, 12), (⟨"ShipFixtures$Desk", "dropFixtures", "(LShipFixtures$Ship;II)V"⟩, 12), (⟨"ShipFixtures", "tryOrders", "()Z"⟩, 5), (⟨"ShipFixtures$Script", "at", "(I)C"⟩, 5), (⟨"ShipFixtures$Script", "readNumber", "(I)Z"⟩, 5), (⟨"ShipFixtures", "obey", "(C[I)I"⟩, 5), (⟨"ShipFixturesModel", "cargoes", "(I)I"⟩, 16), (⟨"ShipFixturesModel", "keeps", "()V"⟩, 16), (⟨"ShipFixturesModel", "copies", "(II)V"⟩, 16), (⟨"ShipFixturesModel", "acted", "(I)I"⟩, 16), (⟨"ShipFixturesModel", "doShip", "(IIIII)I"⟩, 16), (⟨"ShipFixturesModel", "doCargo", "(IIIIII)I"⟩, 16)]
theorem lw_r1 : ∀ q ∈ lw_privs_1, lw_okq q := List.forall_mem_cons.mpr ⟨lw_p0, List.forall_mem_cons.mpr ⟨lw_p1, List.forall_mem_cons.mpr ⟨lw_p2, List.forall_mem_cons.mpr ⟨lw_p3, List.forall_mem_cons.mpr ⟨lw_p4, List.forall_mem_cons.mpr ⟨lw_p5, List.forall_mem_cons.mpr ⟨lw_p6, List.forall_mem_cons.mpr ⟨lw_p7, List.forall_mem_cons.mpr ⟨lw_p8, List.forall_mem_cons.mpr ⟨lw_p9, List.forall_mem_cons.mpr ⟨lw_p10, List.forall_mem_cons.mpr ⟨lw_p11, List.forall_mem_cons.mpr ⟨lw_p12, List.forall_mem_cons.mpr ⟨lw_p13, List.forall_mem_cons.mpr ⟨lw_p14, List.forall_mem_cons.mpr ⟨lw_p15, fun _ h => absurd h List.not_mem_nil⟩⟩⟩⟩⟩⟩⟩⟩⟩⟩⟩⟩⟩⟩⟩⟩
theorem lw_p16 : lw_okq (⟨"ShipFixturesModel", "doFix", "(II)I"⟩, 16) := ⟨⟨by decide +kernel, by decide +kernel⟩, List.mem_of_getElem? (i := 612) (by decide +kernel), List.mem_of_getElem? (i := 719) (by decide +kernel), List.mem_of_getElem? (i := 720) (by decide +kernel)⟩
theorem lw_p17 : lw_okq (⟨"ShipFixturesModel", "isShip", "(I)Z"⟩, 16) := ⟨⟨by decide +kernel, by decide +kernel⟩, List.mem_of_getElem? (i := 612) (by decide +kernel), List.mem_of_getElem? (i := 723) (by decide +kernel), List.mem_of_getElem? (i := 724) (by decide +kernel)⟩
theorem lw_p18 : lw_okq (⟨"ShipFixturesModel", "isCargo", "(I)Z"⟩, 16) := ⟨⟨by decide +kernel, by decide +kernel⟩, List.mem_of_getElem? (i := 612) (by decide +kernel), List.mem_of_getElem? (i := 727) (by decide +kernel), List.mem_of_getElem? (i := 728) (by decide +kernel)⟩
theorem lw_p19 : lw_okq (⟨"ShipFixturesModel", "could", "(III)I"⟩, 16) := ⟨⟨by decide +kernel, by decide +kernel⟩, List.mem_of_getElem? (i := 612) (by decide +kernel), List.mem_of_getElem? (i := 731) (by decide +kernel), List.mem_of_getElem? (i := 732) (by decide +kernel)⟩
theorem lw_p20 : lw_okq (⟨"ShipFixturesModel", "goesAll", "(II)V"⟩, 16) := ⟨⟨by decide +kernel, by decide +kernel⟩, List.mem_of_getElem? (i := 612) (by decide +kernel), List.mem_of_getElem? (i := 735) (by decide +kernel), List.mem_of_getElem? (i := 736) (by decide +kernel)⟩
theorem lw_p21 : lw_okq (⟨"ShipFixturesModel", "goes", "(III)V"⟩, 16) := ⟨⟨by decide +kernel, by decide +kernel⟩, List.mem_of_getElem? (i := 612) (by decide +kernel), List.mem_of_getElem? (i := 739) (by decide +kernel), List.mem_of_getElem? (i := 740) (by decide +kernel)⟩
theorem lw_p22 : lw_okq (⟨"ShipFixturesModel", "looks", "(IIIII)V"⟩, 16) := ⟨⟨by decide +kernel, by decide +kernel⟩, List.mem_of_getElem? (i := 612) (by decide +kernel), List.mem_of_getElem? (i := 743) (by decide +kernel), List.mem_of_getElem? (i := 744) (by decide +kernel)⟩
theorem lw_p23 : lw_okq (⟨"ShipFixturesModel", "sails", "(IIII)I"⟩, 16) := ⟨⟨by decide +kernel, by decide +kernel⟩, List.mem_of_getElem? (i := 612) (by decide +kernel), List.mem_of_getElem? (i := 747) (by decide +kernel), List.mem_of_getElem? (i := 748) (by decide +kernel)⟩
theorem lw_p24 : lw_okq (⟨"ShipFixturesModel", "far", "(II)I"⟩, 16) := ⟨⟨by decide +kernel, by decide +kernel⟩, List.mem_of_getElem? (i := 612) (by decide +kernel), List.mem_of_getElem? (i := 751) (by decide +kernel), List.mem_of_getElem? (i := 752) (by decide +kernel)⟩
theorem lw_p25 : lw_okq (⟨"ShipFixturesModel", "isLate", "(II)Z"⟩, 16) := ⟨⟨by decide +kernel, by decide +kernel⟩, List.mem_of_getElem? (i := 612) (by decide +kernel), List.mem_of_getElem? (i := 758) (by decide +kernel), List.mem_of_getElem? (i := 759) (by decide +kernel)⟩
theorem lw_p26 : lw_okq (⟨"ShipFixturesModel", "fixes", "(III)V"⟩, 16) := ⟨⟨by decide +kernel, by decide +kernel⟩, List.mem_of_getElem? (i := 612) (by decide +kernel), List.mem_of_getElem? (i := 762) (by decide +kernel), List.mem_of_getElem? (i := 763) (by decide +kernel)⟩
theorem lw_p27 : lw_okq (⟨"ShipFixturesModel", "doDelay", "(II)I"⟩, 16) := ⟨⟨by decide +kernel, by decide +kernel⟩, List.mem_of_getElem? (i := 612) (by decide +kernel), List.mem_of_getElem? (i := 770) (by decide +kernel), List.mem_of_getElem? (i := 771) (by decide +kernel)⟩
theorem lw_p28 : lw_okq (⟨"ShipFixturesModel", "accounts", "()I"⟩, 16) := ⟨⟨by decide +kernel, by decide +kernel⟩, List.mem_of_getElem? (i := 612) (by decide +kernel), List.mem_of_getElem? (i := 834) (by decide +kernel), List.mem_of_getElem? (i := 835) (by decide +kernel)⟩
theorem lw_p29 : lw_okq (⟨"ShipFixturesModel", "goesOn", "()I"⟩, 16) := ⟨⟨by decide +kernel, by decide +kernel⟩, List.mem_of_getElem? (i := 612) (by decide +kernel), List.mem_of_getElem? (i := 854) (by decide +kernel), List.mem_of_getElem? (i := 855) (by decide +kernel)⟩
theorem lw_p30 : lw_okq (⟨"ShipFixturesModel", "sign", "()I"⟩, 16) := ⟨⟨by decide +kernel, by decide +kernel⟩, List.mem_of_getElem? (i := 612) (by decide +kernel), List.mem_of_getElem? (i := 858) (by decide +kernel), List.mem_of_getElem? (i := 859) (by decide +kernel)⟩
theorem lw_p31 : lw_okq (⟨"ShipFixturesModel", "order", "(I)Z"⟩, 16) := ⟨⟨by decide +kernel, by decide +kernel⟩, List.mem_of_getElem? (i := 612) (by decide +kernel), List.mem_of_getElem? (i := 862) (by decide +kernel), List.mem_of_getElem? (i := 863) (by decide +kernel)⟩
def lw_privs_2 : List (MethodName × Nat) := [(⟨"ShipFixturesModel", "doFix", "(II)I"⟩, 16), (⟨"ShipFixturesModel", "isShip", "(I)Z"⟩, 16), (⟨"ShipFixturesModel", "isCargo", "(I)Z"⟩, 16), (⟨"ShipFixturesModel", "could", "(III)I"⟩, 16), (⟨"ShipFixturesModel", "goesAll", "(II)V"⟩, 16), (⟨"ShipFixturesModel", "goes", "(III)V"⟩, 16), (⟨"ShipFixturesModel", "looks", "(IIIII)V"⟩, 16), (⟨"ShipFixturesModel", "sails", "(IIII)I"⟩, 16), (⟨"ShipFixturesModel", "far", "(II)I"⟩, 16), (⟨"ShipFixturesModel", "isLate", "(II)Z"⟩, 16), (⟨"ShipFixturesModel", "fixes", "(III)V"⟩, 16), (⟨"ShipFixturesModel", "doDelay", "(II)I"⟩, 16), (⟨"ShipFixturesModel", "accounts", "()I"⟩, 16), (⟨"ShipFixturesModel", "goesOn", "()I"⟩, 16), (⟨"ShipFixturesModel", "sign", "()I"⟩, 16), (⟨"ShipFixturesModel", "order", "(I)Z"⟩, 16)]
theorem lw_r2 : ∀ q ∈ lw_privs_2, lw_okq q := List.forall_mem_cons.mpr ⟨lw_p16, List.forall_mem_cons.mpr ⟨lw_p17, List.forall_mem_cons.mpr ⟨lw_p18, List.forall_mem_cons.mpr ⟨lw_p19, List.forall_mem_cons.mpr ⟨lw_p20, List.forall_mem_cons.mpr ⟨lw_p21, List.forall_mem_cons.mpr ⟨lw_p22, List.forall_mem_cons.mpr ⟨lw_p23, List.forall_mem_cons.mpr ⟨lw_p24, List.forall_mem_cons.mpr ⟨lw_p25, List.forall_mem_cons.mpr ⟨lw_p26, List.forall_mem_cons.mpr ⟨lw_p27, List.forall_mem_cons.mpr ⟨lw_p28, List.forall_mem_cons.mpr ⟨lw_p29, List.forall_mem_cons.mpr ⟨lw_p30, List.forall_mem_cons.mpr ⟨lw_p31, fun _ h => absurd h List.not_mem_nil⟩⟩⟩⟩⟩⟩⟩⟩⟩⟩⟩⟩⟩⟩⟩⟩
theorem lw_p32 : lw_okq (⟨"ShipFixturesModel", "takes", "(I)Z"⟩, 16) := ⟨⟨by decide +kernel, by decide +kernel⟩, List.mem_of_getElem? (i := 612) (by decide +kernel), List.mem_of_getElem? (i := 866) (by decide +kernel), List.mem_of_getElem? (i := 867) (by decide +kernel)⟩
theorem lw_p33 : lw_okq (⟨"ShipFixturesModel", "number", "(I)Z"⟩, 16) := ⟨⟨by decide +kernel, by decide +kernel⟩, List.mem_of_getElem? (i := 612) (by decide +kernel), List.mem_of_getElem? (i := 870) (by decide +kernel), List.mem_of_getElem? (i := 871) (by decide +kernel)⟩
theorem lw_p34 : lw_okq (⟨"ShipFixturesModel", "does", "(I)I"⟩, 16) := ⟨⟨by decide +kernel, by decide +kernel⟩, List.mem_of_getElem? (i := 612) (by decide +kernel), List.mem_of_getElem? (i := 874) (by decide +kernel), List.mem_of_getElem? (i := 875) (by decide +kernel)⟩
def lw_privs_3 : List (MethodName × Nat) := [(⟨"ShipFixturesModel", "takes", "(I)Z"⟩, 16), (⟨"ShipFixturesModel", "number", "(I)Z"⟩, 16), (⟨"ShipFixturesModel", "does", "(I)I"⟩, 16)]
theorem lw_r3 : ∀ q ∈ lw_privs_3, lw_okq q := List.forall_mem_cons.mpr ⟨lw_p32, List.forall_mem_cons.mpr ⟨lw_p33, List.forall_mem_cons.mpr ⟨lw_p34, fun _ h => absurd h List.not_mem_nil⟩⟩⟩
def lw_privs : List (MethodName × Nat) := lw_privs_1 ++ (lw_privs_2 ++ (lw_privs_3))
def lw_tbl : List Cond := k2_sels lw_privs ++ tables_1
theorem lw_privs_ok : ∀ q ∈ lw_privs, lw_okq q := by
  show ∀ q ∈ lw_privs_1 ++ (lw_privs_2 ++ (lw_privs_3)), lw_okq q
  exact List.forall_mem_append.mpr ⟨lw_r1, List.forall_mem_append.mpr ⟨lw_r2, lw_r3⟩⟩
/-- the streams that the claim lets the run draw from -/
abbrev lw_cs : List Choice := [Jvm.Choice.named "NaN.bits"]
theorem lw_bits : nanBits ∈ lw_cs := by first | decide | exact List.mem_cons_self | simp [lw_cs, nanBits]

theorem goodIn_r {big : List Cond} (ws : List Cond) (ps : List Nat) (hp : ws = ps.filterMap (fun i => big[i]?)) (h : ws.all goodWord = true) : GoodIn big ws := by
  intro w hw
  have h1 := List.all_eq_true.mp h w hw
  rw [hp] at hw
  obtain ⟨i, -, hi⟩ := List.mem_filterMap.mp hw
  have hm : w ∈ big := by first | exact List.mem_of_getElem? hi | exact List.getElem?_mem hi
  exact ⟨hm, good_of_word h1⟩
theorem goodIn_app {big a b : List Cond} (ha : GoodIn big a) (hb : GoodIn big b) : GoodIn big (a ++ b) := fun w h => (List.mem_append.mp h).elim (ha w) (hb w)
theorem goodIn_ca {big a b : List Cond} {c : Cond} (ha : GoodIn big (c :: a)) (hb : GoodIn big b) : GoodIn big (c :: (a ++ b)) := fun w h => (List.mem_cons.mp h).elim (fun e => ha w (List.mem_cons.mpr (Or.inl e))) (fun h => (List.mem_append.mp h).elim (fun h => ha w (List.mem_cons.mpr (Or.inr h))) (hb w))
theorem goodIn_sub {big ws : List Cond} (hm : ∀ w ∈ ws, w ∈ big) (h : ws.all goodWord = true) : GoodIn big ws := fun w hw => ⟨hm w hw, good_of_word (List.all_eq_true.mp h w hw)⟩
def RX0 : String := "ShipFixtures$Cargo"
def TX0 : u_T := fun k => match k with
  | 0 => ("ShipFixtures$Cargo", "amount", "I", false)
  | 1 => ("ShipFixtures$Cargo", "loads", "I", false)
  | 2 => ("ShipFixtures$Cargo", "unloads", "I", false)
  | 3 => ("ShipFixtures$Cargo", "first", "I", false)
  | 4 => ("ShipFixtures$Cargo", "last", "I", false)
  | 5 => ("ShipFixtures$Cargo", "freight", "I", false)
  | 6 => ("ShipFixtures$Cargo", "state", "I", false)
  | _ => ("ShipFixtures$Cargo", "ship", "I", false)
def tyX0 : Nat → FieldType := fun k => match k with
  | 0 => .int
  | 1 => .int
  | 2 => .int
  | 3 => .int
  | 4 => .int
  | 5 => .int
  | 6 => .int
  | _ => .int
abbrev wsX00 : List Cond := u_ws RX0 TX0 8
theorem nmX0 : ∀ a, a < 8 → ∀ b, b < 8 → a ≠ b → (TX0 a).2.1 ≠ (TX0 b).2.1 := by decide +kernel
theorem tyX0_ok : ∀ k, k < 8 → parseFieldDescriptor (TX0 k).2.2.1 = some (tyX0 k) := by decide +kernel
abbrev cX0_init : ByteArray := prog_2_method_1_code
def yX0_init : MethodName := ⟨RX0, "<init>", "()V"⟩
abbrev cX0_copyFrom : ByteArray := prog_2_method_2_code
def yX0_copyFrom : MethodName := ⟨RX0, "copyFrom", "(LShipFixtures$Cargo;)V"⟩
abbrev cX0_worth : ByteArray := prog_2_method_3_code
def yX0_worth : MethodName := ⟨RX0, "worth", "()I"⟩
def RX1 : String := "ShipFixtures$Course"
def TX1 : u_T := fun k => match k with
  | 0 => ("ShipFixtures$Course", "port", "I", false)
  | 1 => ("ShipFixtures$Course", "day", "I", false)
  | 2 => ("ShipFixtures$Course", "arrival", "I", false)
  | 3 => ("ShipFixtures$Course", "loading", "I", false)
  | 4 => ("ShipFixtures$Course", "days", "I", false)
  | 5 => ("ShipFixtures$Course", "earns", "I", false)
  | 6 => ("ShipFixtures$Course", "earnsTogether", "I", false)
  | _ => ("ShipFixtures$Course", "margin", "I", false)
def tyX1 : Nat → FieldType := fun k => match k with
  | 0 => .int
  | 1 => .int
  | 2 => .int
  | 3 => .int
  | 4 => .int
  | 5 => .int
  | 6 => .int
  | _ => .int
abbrev wsX10 : List Cond := u_ws RX1 TX1 8
theorem nmX1 : ∀ a, a < 8 → ∀ b, b < 8 → a ≠ b → (TX1 a).2.1 ≠ (TX1 b).2.1 := by decide +kernel
theorem tyX1_ok : ∀ k, k < 8 → parseFieldDescriptor (TX1 k).2.2.1 = some (tyX1 k) := by decide +kernel
abbrev cX1_init : ByteArray := prog_3_method_1_code
def yX1_init : MethodName := ⟨RX1, "<init>", "()V"⟩
abbrev cX1_begin : ByteArray := prog_3_method_2_code
def yX1_begin : MethodName := ⟨RX1, "begin", "(LShipFixtures$Ship;)V"⟩
abbrev cX1_bitsOfEarningsByTheDay : ByteArray := prog_3_method_3_code
def yX1_bitsOfEarningsByTheDay : MethodName := ⟨RX1, "bitsOfEarningsByTheDay", "()I"⟩
abbrev cX1_bitsOf : ByteArray := prog_3_method_4_code
def yX1_bitsOf : MethodName := ⟨RX1, "bitsOf", "(F)I"⟩
def RX2 : String := "ShipFixtures$Desk"
def TX2 : u_T := fun k => match k with
  | 0 => ("ShipFixtures$Desk", "x", "[I", true)
  | 1 => ("ShipFixtures$Desk", "y", "[I", true)
  | 2 => ("ShipFixtures$Desk", "ships", "[LShipFixtures$Ship;", true)
  | 3 => ("ShipFixtures$Desk", "cargoes", "[LShipFixtures$Cargo;", true)
  | 4 => ("ShipFixtures$Desk", "shipCount", "I", false)
  | 5 => ("ShipFixtures$Desk", "cargoCount", "I", false)
  | 6 => ("ShipFixtures$Desk", "cancelled", "I", false)
  | 7 => ("ShipFixtures$Desk", "calledOff", "I", false)
  | 8 => ("ShipFixtures$Desk", "course", "LShipFixtures$Course;", true)
  | 9 => ("ShipFixtures$Desk", "chosenShip", "I", false)
  | 10 => ("ShipFixtures$Desk", "chosenCargo", "I", false)
  | _ => ("ShipFixtures$Desk", "chosenEarns", "I", false)
def tyX2 : Nat → FieldType := fun k => match k with
  | 0 => .array .int
  | 1 => .array .int
  | 2 => .array (.object "ShipFixtures$Ship")
  | 3 => .array (.object "ShipFixtures$Cargo")
  | 4 => .int
  | 5 => .int
  | 6 => .int
  | 7 => .int
  | 8 => .object "ShipFixtures$Course"
  | 9 => .int
  | 10 => .int
  | _ => .int
abbrev wsX20 : List Cond := u_ws RX2 TX2 12
theorem nmX2 : ∀ a, a < 12 → ∀ b, b < 12 → a ≠ b → (TX2 a).2.1 ≠ (TX2 b).2.1 := by decide +kernel
theorem tyX2_ok : ∀ k, k < 12 → parseFieldDescriptor (TX2 k).2.2.1 = some (tyX2 k) := by decide +kernel
abbrev cX2_init : ByteArray := prog_4_method_1_code
def yX2_init : MethodName := ⟨RX2, "<init>", "()V"⟩
abbrev cX2_copyFrom : ByteArray := prog_4_method_2_code
def yX2_copyFrom : MethodName := ⟨RX2, "copyFrom", "(LShipFixtures$Desk;)V"⟩
abbrev cX2_isShip : ByteArray := prog_4_method_3_code
def yX2_isShip : MethodName := ⟨RX2, "isShip", "(I)Z"⟩
abbrev cX2_isCargo : ByteArray := prog_4_method_4_code
def yX2_isCargo : MethodName := ⟨RX2, "isCargo", "(I)Z"⟩
abbrev cX2_movePort : ByteArray := prog_4_method_5_code
def yX2_movePort : MethodName := ⟨RX2, "movePort", "(III)I"⟩
abbrev cX2_addShip : ByteArray := prog_4_method_6_code
def yX2_addShip : MethodName := ⟨RX2, "addShip", "(IIIII)I"⟩
abbrev cX2_addCargo : ByteArray := prog_4_method_7_code
def yX2_addCargo : MethodName := ⟨RX2, "addCargo", "(IIIIII)I"⟩
abbrev cX2_fixShip : ByteArray := prog_4_method_8_code
def yX2_fixShip : MethodName := ⟨RX2, "fixShip", "(II)I"⟩
abbrev cX2_delayShip : ByteArray := prog_4_method_9_code
def yX2_delayShip : MethodName := ⟨RX2, "delayShip", "(II)I"⟩
abbrev cX2_callOffLast : ByteArray := prog_4_method_10_code
def yX2_callOffLast : MethodName := ⟨RX2, "callOffLast", "(I)I"⟩
abbrev cX2_settleShip : ByteArray := prog_4_method_11_code
def yX2_settleShip : MethodName := ⟨RX2, "settleShip", "(I)I"⟩
abbrev cX2_dropFixtures : ByteArray := prog_4_method_12_code
def yX2_dropFixtures : MethodName := ⟨RX2, "dropFixtures", "(LShipFixtures$Ship;II)V"⟩
abbrev cX2_between : ByteArray := prog_4_method_13_code
def yX2_between : MethodName := ⟨RX2, "between", "(II)I"⟩
abbrev cX2_follow : ByteArray := prog_4_method_14_code
def yX2_follow : MethodName := ⟨RX2, "follow", "(II)LShipFixtures$Course;"⟩
abbrev cX2_followAll : ByteArray := prog_4_method_15_code
def yX2_followAll : MethodName := ⟨RX2, "followAll", "(I)LShipFixtures$Course;"⟩
abbrev cX2_sail : ByteArray := prog_4_method_16_code
def yX2_sail : MethodName := ⟨RX2, "sail", "(LShipFixtures$Ship;I)V"⟩
abbrev cX2_hindrance : ByteArray := prog_4_method_17_code
def yX2_hindrance : MethodName := ⟨RX2, "hindrance", "(II)I"⟩
abbrev cX2_fixturesInTime : ByteArray := prog_4_method_18_code
def yX2_fixturesInTime : MethodName := ⟨RX2, "fixturesInTime", "(I)I"⟩
abbrev cX2_slackOf : ByteArray := prog_4_method_19_code
def yX2_slackOf : MethodName := ⟨RX2, "slackOf", "(I)I"⟩
abbrev cX2_choose : ByteArray := prog_4_method_20_code
def yX2_choose : MethodName := ⟨RX2, "choose", "(IIII)Z"⟩
abbrev cX2_chooseGainful : ByteArray := prog_4_method_21_code
def yX2_chooseGainful : MethodName := ⟨RX2, "chooseGainful", "()Z"⟩
abbrev cX2_cargoesThatAre : ByteArray := prog_4_method_22_code
def yX2_cargoesThatAre : MethodName := ⟨RX2, "cargoesThatAre", "(I)I"⟩
abbrev cX2_openCargoes : ByteArray := prog_4_method_23_code
def yX2_openCargoes : MethodName := ⟨RX2, "openCargoes", "()I"⟩
abbrev cX2_pairOf : ByteArray := prog_4_method_24_code
def yX2_pairOf : MethodName := ⟨RX2, "pairOf", "(I)J"⟩
abbrev cX2_accountsTogether : ByteArray := prog_4_method_25_code
def yX2_accountsTogether : MethodName := ⟨RX2, "accountsTogether", "()I"⟩
def RX3 : String := "ShipFixtures$Finding"
def TX3 : u_T := fun k => match k with
  | 0 => ("ShipFixtures$Finding", "orders", "I", false)
  | 1 => ("ShipFixtures$Finding", "position", "I", false)
  | 2 => ("ShipFixtures$Finding", "reason", "I", false)
  | _ => ("ShipFixtures$Finding", "cause", "I", false)
def tyX3 : Nat → FieldType := fun k => match k with
  | 0 => .int
  | 1 => .int
  | 2 => .int
  | _ => .int
abbrev wsX30 : List Cond := u_ws RX3 TX3 4
theorem nmX3 : ∀ a, a < 4 → ∀ b, b < 4 → a ≠ b → (TX3 a).2.1 ≠ (TX3 b).2.1 := by decide +kernel
theorem tyX3_ok : ∀ k, k < 4 → parseFieldDescriptor (TX3 k).2.2.1 = some (tyX3 k) := by decide +kernel
abbrev cX3_init : ByteArray := prog_5_method_1_code
def yX3_init : MethodName := ⟨RX3, "<init>", "()V"⟩
abbrev cX3_tell : ByteArray := prog_5_method_2_code
def yX3_tell : MethodName := ⟨RX3, "tell", "(III)V"⟩
def RX4 : String := "ShipFixtures$History"
def TX4 : u_T := fun k => match k with
  | 0 => ("ShipFixtures$History", "states", "[LShipFixtures$Desk;", true)
  | _ => ("ShipFixtures$History", "size", "I", false)
def tyX4 : Nat → FieldType := fun k => match k with
  | 0 => .array (.object "ShipFixtures$Desk")
  | _ => .int
abbrev wsX40 : List Cond := u_ws RX4 TX4 2
theorem nmX4 : ∀ a, a < 2 → ∀ b, b < 2 → a ≠ b → (TX4 a).2.1 ≠ (TX4 b).2.1 := by decide +kernel
theorem tyX4_ok : ∀ k, k < 2 → parseFieldDescriptor (TX4 k).2.2.1 = some (tyX4 k) := by decide +kernel
abbrev cX4_init : ByteArray := prog_6_method_1_code
def yX4_init : MethodName := ⟨RX4, "<init>", "()V"⟩
abbrev cX4_record : ByteArray := prog_6_method_2_code
def yX4_record : MethodName := ⟨RX4, "record", "(LShipFixtures$Desk;)V"⟩
abbrev cX4_dropOldest : ByteArray := prog_6_method_3_code
def yX4_dropOldest : MethodName := ⟨RX4, "dropOldest", "()V"⟩
abbrev cX4_restore : ByteArray := prog_6_method_4_code
def yX4_restore : MethodName := ⟨RX4, "restore", "(LShipFixtures$Desk;)Z"⟩
def RX5 : String := "ShipFixtures$Script"
def TX5 : u_T := fun k => match k with
  | 0 => ("ShipFixtures$Script", "characters", "[C", true)
  | 1 => ("ShipFixtures$Script", "length", "I", false)
  | 2 => ("ShipFixtures$Script", "kind", "C", false)
  | 3 => ("ShipFixtures$Script", "numbers", "[I", true)
  | _ => ("ShipFixtures$Script", "end", "I", false)
def tyX5 : Nat → FieldType := fun k => match k with
  | 0 => .array .char
  | 1 => .int
  | 2 => .char
  | 3 => .array .int
  | _ => .int
abbrev wsX50 : List Cond := u_ws RX5 TX5 5
theorem nmX5 : ∀ a, a < 5 → ∀ b, b < 5 → a ≠ b → (TX5 a).2.1 ≠ (TX5 b).2.1 := by decide +kernel
theorem tyX5_ok : ∀ k, k < 5 → parseFieldDescriptor (TX5 k).2.2.1 = some (tyX5 k) := by decide +kernel
abbrev cX5_init : ByteArray := prog_7_method_1_code
def yX5_init : MethodName := ⟨RX5, "<init>", "()V"⟩
abbrev cX5_append : ByteArray := prog_7_method_2_code
def yX5_append : MethodName := ⟨RX5, "append", "(C)Z"⟩
abbrev cX5_read : ByteArray := prog_7_method_3_code
def yX5_read : MethodName := ⟨RX5, "read", "(I)Z"⟩
abbrev cX5_numbersOf : ByteArray := prog_7_method_4_code
def yX5_numbersOf : MethodName := ⟨RX5, "numbersOf", "(C)I"⟩
abbrev cX5_readNumber : ByteArray := prog_7_method_5_code
def yX5_readNumber : MethodName := ⟨RX5, "readNumber", "(I)Z"⟩
abbrev cX5_at : ByteArray := prog_7_method_6_code
def yX5_at : MethodName := ⟨RX5, "at", "(I)C"⟩
def RX6 : String := "ShipFixtures$Ship"
def TX6 : u_T := fun k => match k with
  | 0 => ("ShipFixtures$Ship", "size", "I", false)
  | 1 => ("ShipFixtures$Ship", "speed", "I", false)
  | 2 => ("ShipFixtures$Ship", "cost", "I", false)
  | 3 => ("ShipFixtures$Ship", "firstPort", "I", false)
  | 4 => ("ShipFixtures$Ship", "firstDay", "I", false)
  | 5 => ("ShipFixtures$Ship", "account", "I", false)
  | 6 => ("ShipFixtures$Ship", "fixtureCount", "I", false)
  | _ => ("ShipFixtures$Ship", "fixtures", "[I", true)
def tyX6 : Nat → FieldType := fun k => match k with
  | 0 => .int
  | 1 => .int
  | 2 => .int
  | 3 => .int
  | 4 => .int
  | 5 => .int
  | 6 => .int
  | _ => .array .int
abbrev wsX60 : List Cond := u_ws RX6 TX6 8
theorem nmX6 : ∀ a, a < 8 → ∀ b, b < 8 → a ≠ b → (TX6 a).2.1 ≠ (TX6 b).2.1 := by decide +kernel
theorem tyX6_ok : ∀ k, k < 8 → parseFieldDescriptor (TX6 k).2.2.1 = some (tyX6 k) := by decide +kernel
abbrev cX6_init : ByteArray := prog_8_method_1_code
def yX6_init : MethodName := ⟨RX6, "<init>", "()V"⟩
abbrev cX6_copyFrom : ByteArray := prog_8_method_2_code
def yX6_copyFrom : MethodName := ⟨RX6, "copyFrom", "(LShipFixtures$Ship;)V"⟩
def RX7 : String := "ShipFixtures"
def TX7 : u_T := fun k => match k with
  | 0 => ("ShipFixtures", "desk", "LShipFixtures$Desk;", true)
  | 1 => ("ShipFixtures", "trial", "LShipFixtures$Desk;", true)
  | 2 => ("ShipFixtures", "history", "LShipFixtures$History;", true)
  | 3 => ("ShipFixtures", "script", "LShipFixtures$Script;", true)
  | _ => ("ShipFixtures", "finding", "LShipFixtures$Finding;", true)
def tyX7 : Nat → FieldType := fun k => match k with
  | 0 => .object "ShipFixtures$Desk"
  | 1 => .object "ShipFixtures$Desk"
  | 2 => .object "ShipFixtures$History"
  | 3 => .object "ShipFixtures$Script"
  | _ => .object "ShipFixtures$Finding"
abbrev wsX70 : List Cond := u_ws RX7 TX7 5
theorem nmX7 : ∀ a, a < 5 → ∀ b, b < 5 → a ≠ b → (TX7 a).2.1 ≠ (TX7 b).2.1 := by decide +kernel
theorem tyX7_ok : ∀ k, k < 5 → parseFieldDescriptor (TX7 k).2.2.1 = some (tyX7 k) := by decide +kernel
abbrev cX7_init : ByteArray := prog_1_method_1_code
def yX7_init : MethodName := ⟨RX7, "<init>", "()V"⟩
abbrev cX7_port : ByteArray := prog_1_method_2_code
def yX7_port : MethodName := ⟨RX7, "port", "(III)I"⟩
abbrev cX7_ship : ByteArray := prog_1_method_3_code
def yX7_ship : MethodName := ⟨RX7, "ship", "(IIIII)I"⟩
abbrev cX7_cargo : ByteArray := prog_1_method_4_code
def yX7_cargo : MethodName := ⟨RX7, "cargo", "(IIIIII)I"⟩
abbrev cX7_fix : ByteArray := prog_1_method_5_code
def yX7_fix : MethodName := ⟨RX7, "fix", "(II)I"⟩
abbrev cX7_delay : ByteArray := prog_1_method_6_code
def yX7_delay : MethodName := ⟨RX7, "delay", "(II)I"⟩
abbrev cX7_callOff : ByteArray := prog_1_method_7_code
def yX7_callOff : MethodName := ⟨RX7, "callOff", "(I)I"⟩
abbrev cX7_settle : ByteArray := prog_1_method_8_code
def yX7_settle : MethodName := ⟨RX7, "settle", "(I)I"⟩
abbrev cX7_shipOf : ByteArray := prog_1_method_9_code
def yX7_shipOf : MethodName := ⟨RX7, "shipOf", "(II)I"⟩
abbrev cX7_cargoOf : ByteArray := prog_1_method_10_code
def yX7_cargoOf : MethodName := ⟨RX7, "cargoOf", "(II)I"⟩
abbrev cX7_fixtureOf : ByteArray := prog_1_method_11_code
def yX7_fixtureOf : MethodName := ⟨RX7, "fixtureOf", "(III)I"⟩
abbrev cX7_distance : ByteArray := prog_1_method_12_code
def yX7_distance : MethodName := ⟨RX7, "distance", "(II)I"⟩
abbrev cX7_voyage : ByteArray := prog_1_method_13_code
def yX7_voyage : MethodName := ⟨RX7, "voyage", "(III)I"⟩
abbrev cX7_bestCargo : ByteArray := prog_1_method_14_code
def yX7_bestCargo : MethodName := ⟨RX7, "bestCargo", "(I)I"⟩
abbrev cX7_bestShip : ByteArray := prog_1_method_15_code
def yX7_bestShip : MethodName := ⟨RX7, "bestShip", "(I)I"⟩
abbrev cX7_plan : ByteArray := prog_1_method_16_code
def yX7_plan : MethodName := ⟨RX7, "plan", "(I)I"⟩
abbrev cX7_slack : ByteArray := prog_1_method_17_code
def yX7_slack : MethodName := ⟨RX7, "slack", "(I)I"⟩
abbrev cX7_count : ByteArray := prog_1_method_18_code
def yX7_count : MethodName := ⟨RX7, "count", "(I)I"⟩
abbrev cX7_undo : ByteArray := prog_1_method_19_code
def yX7_undo : MethodName := ⟨RX7, "undo", "()I"⟩
abbrev cX7_type : ByteArray := prog_1_method_20_code
def yX7_type : MethodName := ⟨RX7, "type", "(I)I"⟩
abbrev cX7_clearText : ByteArray := prog_1_method_21_code
def yX7_clearText : MethodName := ⟨RX7, "clearText", "()I"⟩
abbrev cX7_fault : ByteArray := prog_1_method_22_code
def yX7_fault : MethodName := ⟨RX7, "fault", "(I)I"⟩
abbrev cX7_play : ByteArray := prog_1_method_23_code
def yX7_play : MethodName := ⟨RX7, "play", "()I"⟩
abbrev cX7_freshTrial : ByteArray := prog_1_method_24_code
def yX7_freshTrial : MethodName := ⟨RX7, "freshTrial", "()LShipFixtures$Desk;"⟩
abbrev cX7_keep : ByteArray := prog_1_method_25_code
def yX7_keep : MethodName := ⟨RX7, "keep", "(I)I"⟩
abbrev cX7_tryOrders : ByteArray := prog_1_method_26_code
def yX7_tryOrders : MethodName := ⟨RX7, "tryOrders", "()Z"⟩
abbrev cX7_obey : ByteArray := prog_1_method_27_code
def yX7_obey : MethodName := ⟨RX7, "obey", "(C[I)I"⟩
abbrev cX7_isIn : ByteArray := prog_1_method_28_code
def yX7_isIn : MethodName := ⟨RX7, "isIn", "(III)Z"⟩
abbrev cX7_isPort : ByteArray := prog_1_method_29_code
def yX7_isPort : MethodName := ⟨RX7, "isPort", "(I)Z"⟩
abbrev cX7_isError : ByteArray := prog_1_method_30_code
def yX7_isError : MethodName := ⟨RX7, "isError", "(I)Z"⟩
abbrev cX7_divideUp : ByteArray := prog_1_method_31_code
def yX7_divideUp : MethodName := ⟨RX7, "divideUp", "(II)I"⟩
def RX8 : String := "ShipFixturesModel"
def TX8 : u_T := fun k => match k with
  | 0 => ("ShipFixturesModel", "s", "[I", true)
  | 1 => ("ShipFixturesModel", "states", "I", false)
  | 2 => ("ShipFixturesModel", "text", "[C", true)
  | 3 => ("ShipFixturesModel", "typed", "I", false)
  | 4 => ("ShipFixturesModel", "reason", "I", false)
  | 5 => ("ShipFixturesModel", "cause", "I", false)
  | 6 => ("ShipFixturesModel", "at", "I", false)
  | 7 => ("ShipFixturesModel", "told", "[I", true)
  | 8 => ("ShipFixturesModel", "come", "I", false)
  | 9 => ("ShipFixturesModel", "begun", "I", false)
  | 10 => ("ShipFixturesModel", "free", "I", false)
  | 11 => ("ShipFixturesModel", "earned", "I", false)
  | 12 => ("ShipFixturesModel", "port", "I", false)
  | 13 => ("ShipFixturesModel", "day", "I", false)
  | 14 => ("ShipFixturesModel", "sum", "I", false)
  | _ => ("ShipFixturesModel", "inTime", "I", false)
def tyX8 : Nat → FieldType := fun k => match k with
  | 0 => .array .int
  | 1 => .int
  | 2 => .array .char
  | 3 => .int
  | 4 => .int
  | 5 => .int
  | 6 => .int
  | 7 => .array .int
  | 8 => .int
  | 9 => .int
  | 10 => .int
  | 11 => .int
  | 12 => .int
  | 13 => .int
  | 14 => .int
  | _ => .int
abbrev wsX80 : List Cond := u_ws RX8 TX8 16
theorem nmX8 : ∀ a, a < 16 → ∀ b, b < 16 → a ≠ b → (TX8 a).2.1 ≠ (TX8 b).2.1 := by decide +kernel
theorem tyX8_ok : ∀ k, k < 16 → parseFieldDescriptor (TX8 k).2.2.1 = some (tyX8 k) := by decide +kernel
abbrev cX8_init : ByteArray := prog_10_method_1_code
def yX8_init : MethodName := ⟨RX8, "<init>", "()V"⟩
abbrev cX8_in : ByteArray := prog_10_method_2_code
def yX8_in : MethodName := ⟨RX8, "in", "(III)Z"⟩
abbrev cX8_copies : ByteArray := prog_10_method_3_code
def yX8_copies : MethodName := ⟨RX8, "copies", "(II)V"⟩
abbrev cX8_keeps : ByteArray := prog_10_method_4_code
def yX8_keeps : MethodName := ⟨RX8, "keeps", "()V"⟩
abbrev cX8_acted : ByteArray := prog_10_method_5_code
def yX8_acted : MethodName := ⟨RX8, "acted", "(I)I"⟩
abbrev cX8_isShip : ByteArray := prog_10_method_6_code
def yX8_isShip : MethodName := ⟨RX8, "isShip", "(I)Z"⟩
abbrev cX8_isCargo : ByteArray := prog_10_method_7_code
def yX8_isCargo : MethodName := ⟨RX8, "isCargo", "(I)Z"⟩
abbrev cX8_shipAt : ByteArray := prog_10_method_8_code
def yX8_shipAt : MethodName := ⟨RX8, "shipAt", "(III)I"⟩
abbrev cX8_cargoAt : ByteArray := prog_10_method_9_code
def yX8_cargoAt : MethodName := ⟨RX8, "cargoAt", "(III)I"⟩
abbrev cX8_apart : ByteArray := prog_10_method_10_code
def yX8_apart : MethodName := ⟨RX8, "apart", "(II)I"⟩
abbrev cX8_far : ByteArray := prog_10_method_11_code
def yX8_far : MethodName := ⟨RX8, "far", "(II)I"⟩
abbrev cX8_sails : ByteArray := prog_10_method_12_code
def yX8_sails : MethodName := ⟨RX8, "sails", "(IIII)I"⟩
abbrev cX8_looks : ByteArray := prog_10_method_13_code
def yX8_looks : MethodName := ⟨RX8, "looks", "(IIIII)V"⟩
abbrev cX8_isLate : ByteArray := prog_10_method_14_code
def yX8_isLate : MethodName := ⟨RX8, "isLate", "(II)Z"⟩
abbrev cX8_goes : ByteArray := prog_10_method_15_code
def yX8_goes : MethodName := ⟨RX8, "goes", "(III)V"⟩
abbrev cX8_goesAll : ByteArray := prog_10_method_16_code
def yX8_goesAll : MethodName := ⟨RX8, "goesAll", "(II)V"⟩
abbrev cX8_could : ByteArray := prog_10_method_17_code
def yX8_could : MethodName := ⟨RX8, "could", "(III)I"⟩
abbrev cX8_fixes : ByteArray := prog_10_method_18_code
def yX8_fixes : MethodName := ⟨RX8, "fixes", "(III)V"⟩
abbrev cX8_doShip : ByteArray := prog_10_method_19_code
def yX8_doShip : MethodName := ⟨RX8, "doShip", "(IIIII)I"⟩
abbrev cX8_doCargo : ByteArray := prog_10_method_20_code
def yX8_doCargo : MethodName := ⟨RX8, "doCargo", "(IIIIII)I"⟩
abbrev cX8_doFix : ByteArray := prog_10_method_21_code
def yX8_doFix : MethodName := ⟨RX8, "doFix", "(II)I"⟩
abbrev cX8_doDelay : ByteArray := prog_10_method_22_code
def yX8_doDelay : MethodName := ⟨RX8, "doDelay", "(II)I"⟩
abbrev cX8_port : ByteArray := prog_10_method_23_code
def yX8_port : MethodName := ⟨RX8, "port", "(III)I"⟩
abbrev cX8_ship : ByteArray := prog_10_method_24_code
def yX8_ship : MethodName := ⟨RX8, "ship", "(IIIII)I"⟩
abbrev cX8_cargo : ByteArray := prog_10_method_25_code
def yX8_cargo : MethodName := ⟨RX8, "cargo", "(IIIIII)I"⟩
abbrev cX8_fix : ByteArray := prog_10_method_26_code
def yX8_fix : MethodName := ⟨RX8, "fix", "(II)I"⟩
abbrev cX8_delay : ByteArray := prog_10_method_27_code
def yX8_delay : MethodName := ⟨RX8, "delay", "(II)I"⟩
abbrev cX8_callOff : ByteArray := prog_10_method_28_code
def yX8_callOff : MethodName := ⟨RX8, "callOff", "(I)I"⟩
abbrev cX8_settle : ByteArray := prog_10_method_29_code
def yX8_settle : MethodName := ⟨RX8, "settle", "(I)I"⟩
abbrev cX8_shipOf : ByteArray := prog_10_method_30_code
def yX8_shipOf : MethodName := ⟨RX8, "shipOf", "(II)I"⟩
abbrev cX8_cargoOf : ByteArray := prog_10_method_31_code
def yX8_cargoOf : MethodName := ⟨RX8, "cargoOf", "(II)I"⟩
abbrev cX8_fixtureOf : ByteArray := prog_10_method_32_code
def yX8_fixtureOf : MethodName := ⟨RX8, "fixtureOf", "(III)I"⟩
abbrev cX8_distance : ByteArray := prog_10_method_33_code
def yX8_distance : MethodName := ⟨RX8, "distance", "(II)I"⟩
abbrev cX8_voyage : ByteArray := prog_10_method_34_code
def yX8_voyage : MethodName := ⟨RX8, "voyage", "(III)I"⟩
abbrev cX8_bestCargo : ByteArray := prog_10_method_35_code
def yX8_bestCargo : MethodName := ⟨RX8, "bestCargo", "(I)I"⟩
abbrev cX8_bestShip : ByteArray := prog_10_method_36_code
def yX8_bestShip : MethodName := ⟨RX8, "bestShip", "(I)I"⟩
abbrev cX8_plan : ByteArray := prog_10_method_37_code
def yX8_plan : MethodName := ⟨RX8, "plan", "(I)I"⟩
abbrev cX8_slack : ByteArray := prog_10_method_38_code
def yX8_slack : MethodName := ⟨RX8, "slack", "(I)I"⟩
abbrev cX8_cargoes : ByteArray := prog_10_method_39_code
def yX8_cargoes : MethodName := ⟨RX8, "cargoes", "(I)I"⟩
abbrev cX8_accounts : ByteArray := prog_10_method_40_code
def yX8_accounts : MethodName := ⟨RX8, "accounts", "()I"⟩
abbrev cX8_count : ByteArray := prog_10_method_41_code
def yX8_count : MethodName := ⟨RX8, "count", "(I)I"⟩
abbrev cX8_undo : ByteArray := prog_10_method_42_code
def yX8_undo : MethodName := ⟨RX8, "undo", "()I"⟩
abbrev cX8_type : ByteArray := prog_10_method_43_code
def yX8_type : MethodName := ⟨RX8, "type", "(I)I"⟩
abbrev cX8_clearText : ByteArray := prog_10_method_44_code
def yX8_clearText : MethodName := ⟨RX8, "clearText", "()I"⟩
abbrev cX8_sign : ByteArray := prog_10_method_45_code
def yX8_sign : MethodName := ⟨RX8, "sign", "()I"⟩
abbrev cX8_number : ByteArray := prog_10_method_46_code
def yX8_number : MethodName := ⟨RX8, "number", "(I)Z"⟩
abbrev cX8_takes : ByteArray := prog_10_method_47_code
def yX8_takes : MethodName := ⟨RX8, "takes", "(I)Z"⟩
abbrev cX8_order : ByteArray := prog_10_method_48_code
def yX8_order : MethodName := ⟨RX8, "order", "(I)Z"⟩
abbrev cX8_does : ByteArray := prog_10_method_49_code
def yX8_does : MethodName := ⟨RX8, "does", "(I)I"⟩
abbrev cX8_goesOn : ByteArray := prog_10_method_50_code
def yX8_goesOn : MethodName := ⟨RX8, "goesOn", "()I"⟩
abbrev cX8_fault : ByteArray := prog_10_method_51_code
def yX8_fault : MethodName := ⟨RX8, "fault", "(I)I"⟩
abbrev cX8_play : ByteArray := prog_10_method_52_code
def yX8_play : MethodName := ⟨RX8, "play", "()I"⟩
def RJxf58ca : String := "java/lang/Float"
def TJxf58ca : u_T := fun k => match k with
  | _ => ("", "", "", false)
def tyJxf58ca : Nat → FieldType := fun k => match k with
  | _ => .int
abbrev wsJxf58ca0 : List Cond := u_ws RJxf58ca TJxf58ca 0
theorem nmJxf58ca : ∀ a, a < 0 → ∀ b, b < 0 → a ≠ b → (TJxf58ca a).2.1 ≠ (TJxf58ca b).2.1 := by decide +kernel
theorem tyJxf58ca_ok : ∀ k, k < 0 → parseFieldDescriptor (TJxf58ca k).2.2.1 = some (tyJxf58ca k) := by decide +kernel
abbrev cJxf58ca_isNaN_12338 : ByteArray := prog_11_method_6_code
def yJxf58ca_isNaN_12338 : MethodName := ⟨RJxf58ca, "isNaN", "(F)Z"⟩
abbrev cJxf58ca_floatToIntBits_5c35a : ByteArray := prog_11_method_24_code
def yJxf58ca_floatToIntBits_5c35a : MethodName := ⟨RJxf58ca, "floatToIntBits", "(F)I"⟩
def RJ13 : String := "java/lang/Long"
def TJ13 : u_T := fun k => match k with
  | _ => ("", "", "", false)
def tyJ13 : Nat → FieldType := fun k => match k with
  | _ => .int
abbrev wsJ130 : List Cond := u_ws RJ13 TJ13 0
theorem nmJ13 : ∀ a, a < 0 → ∀ b, b < 0 → a ≠ b → (TJ13 a).2.1 ≠ (TJ13 b).2.1 := by decide +kernel
theorem tyJ13_ok : ∀ k, k < 0 → parseFieldDescriptor (TJ13 k).2.2.1 = some (tyJ13 k) := by decide +kernel
abbrev cJ13_bitCount_95d88 : ByteArray := prog_12_method_50_code
def yJ13_bitCount_95d88 : MethodName := ⟨RJ13, "bitCount", "(J)I"⟩
def RJ9 : String := "java/lang/Math"
def TJ9 : u_T := fun k => match k with
  | _ => ("", "", "", false)
def tyJ9 : Nat → FieldType := fun k => match k with
  | _ => .int
abbrev wsJ90 : List Cond := u_ws RJ9 TJ9 0
theorem nmJ9 : ∀ a, a < 0 → ∀ b, b < 0 → a ≠ b → (TJ9 a).2.1 ≠ (TJ9 b).2.1 := by decide +kernel
theorem tyJ9_ok : ∀ k, k < 0 → parseFieldDescriptor (TJ9 k).2.2.1 = some (tyJ9 k) := by decide +kernel
abbrev cJ9_max_7cf53 : ByteArray := prog_13_method_65_code
def yJ9_max_7cf53 : MethodName := ⟨RJ9, "max", "(II)I"⟩
abbrev cJ9_min_7cf53 : ByteArray := prog_13_method_69_code
def yJ9_min_7cf53 : MethodName := ⟨RJ9, "min", "(II)I"⟩
def RJ10 : String := "java/lang/System"
def TJ10 : u_T := fun k => match k with
  | _ => ("", "", "", false)
def tyJ10 : Nat → FieldType := fun k => match k with
  | _ => .int
abbrev wsJ100 : List Cond := u_ws RJ10 TJ10 0
theorem nmJ10 : ∀ a, a < 0 → ∀ b, b < 0 → a ≠ b → (TJ10 a).2.1 ≠ (TJ10 b).2.1 := by decide +kernel
theorem tyJ10_ok : ∀ k, k < 0 → parseFieldDescriptor (TJ10 k).2.2.1 = some (tyJ10 k) := by decide +kernel
def RL : String := "ShipFixturesLaw"
abbrev cL_law : ByteArray := code
def yL_law : MethodName := ⟨RL, "law", "([I)Z"⟩
/-- the tables' words that a callee may be handed -/
def AL : List Cond := lw_tbl.filter goodWord
theorem al_good : AL.all goodWord = true := by
  refine List.all_eq_true.mpr (fun w h => ?_)
  exact (List.mem_filter.mp h).2
theorem al_in : ∀ w ∈ AL, w ∈ lw_tbl := fun w h => (List.mem_filter.mp h).1
theorem al_mem {w : Cond} (i : Nat) (h : lw_tbl[i]? = some w ∧ goodWord w = true) : w ∈ AL := List.mem_filter.mpr ⟨List.mem_of_getElem? h.1, h.2⟩
theorem al_sub (ws : List Cond) (ps : List Nat) (hp : ws = ps.filterMap (fun i => lw_tbl[i]?)) (h : ws.all goodWord = true) : ∀ w ∈ ws, w ∈ AL := fun w hw => List.mem_filter.mpr ⟨((goodIn_r ws ps hp h) w hw).1, List.all_eq_true.mp h w hw⟩
theorem al_gv {own : String} {idx : Nat} {C : String} {y : MethodName} {cw : Cond} (h1 : Cond.methodLink own idx y ∈ AL) (h2 : Cond.instanceMethod y ∈ AL) (h3 : Cond.selects C y y ∈ AL) (h4 : Cond.initialized C ∈ AL) (h5 : cw ∈ AL) : GoodIn AL (wsV own idx C y (cw :: AL)) := by
  intro w hw
  have hm : w ∈ AL := by
    rcases List.mem_append.mp hw with h | h
    · simp only [List.mem_cons, List.not_mem_nil, or_false] at h
      rcases h with h | h | h | h <;> subst h <;> assumption
    · rcases List.mem_cons.mp h with h | h
      · subst h; exact h5
      · exact h
  exact ⟨hm, good_of_word (List.all_eq_true.mp al_good w hm)⟩
theorem al_gs {own : String} {idx : Nat} {y : MethodName} {cw : Cond} (h1 : Cond.methodLink own idx y ∈ AL) (h2 : Cond.static y ∈ AL) (h4 : Cond.initialized y.cls ∈ AL) (h5 : cw ∈ AL) : GoodIn AL (va_wsS own idx y (cw :: AL)) := by
  intro w hw
  have hm : w ∈ AL := by
    rcases List.mem_append.mp hw with h | h
    · simp only [List.mem_cons, List.not_mem_nil, or_false] at h
      rcases h with h | h | h <;> subst h <;> assumption
    · rcases List.mem_cons.mp h with h | h
      · subst h; exact h5
      · exact h
  exact ⟨hm, good_of_word (List.all_eq_true.mp al_good w hm)⟩
theorem al_g {cw : Cond} (h5 : cw ∈ AL) : GoodIn AL (cw :: AL) := by
  intro w hw
  have hm : w ∈ AL := by
    rcases List.mem_cons.mp hw with h | h
    · subst h; exact h5
    · exact h
  exact ⟨hm, good_of_word (List.all_eq_true.mp al_good w hm)⟩
theorem al_nest : (lw_tbl.filter (fun w => match w with | .methodLinkNest .. => true | _ => false)).length = 9 := by decide +kernel
theorem iA_X0 : ∀ w ∈ wsX00, w ∈ AL := al_sub _ [189, 191, 193, 195, 197, 199, 201, 203] (by decide +kernel) (by decide +kernel)
theorem iA_X1 : ∀ w ∈ wsX10, w ∈ AL := al_sub _ [94, 96, 98, 100, 102, 104, 106, 108] (by decide +kernel) (by decide +kernel)
theorem iA_X2 : ∀ w ∈ wsX20, w ∈ AL := al_sub _ [228, 230, 232, 234, 236, 238, 240, 242, 244, 246, 248, 250] (by decide +kernel) (by decide +kernel)
theorem iA_X3 : ∀ w ∈ wsX30, w ∈ AL := al_sub _ [310, 312, 314, 316] (by decide +kernel) (by decide +kernel)
theorem iA_X4 : ∀ w ∈ wsX40, w ∈ AL := al_sub _ [265, 267] (by decide +kernel) (by decide +kernel)
theorem iA_X5 : ∀ w ∈ wsX50, w ∈ AL := al_sub _ [285, 287, 289, 291, 293] (by decide +kernel) (by decide +kernel)
theorem iA_X6 : ∀ w ∈ wsX60, w ∈ AL := al_sub _ [143, 145, 147, 149, 151, 153, 155, 157] (by decide +kernel) (by decide +kernel)
theorem iA_X7 : ∀ w ∈ wsX70, w ∈ AL := al_sub _ [324, 326, 328, 330, 332] (by decide +kernel) (by decide +kernel)
theorem iA_X8 : ∀ w ∈ wsX80, w ∈ AL := al_sub _ [668, 670, 672, 674, 676, 678, 680, 682, 684, 686, 688, 690, 692, 694, 696, 698] (by decide +kernel) (by decide +kernel)
theorem qS_X7_freshTrial : (.selects RX7 yX7_freshTrial yX7_freshTrial : Cond) ∈ AL := al_mem 0 (by decide +kernel)
theorem qS_X7_keep : (.selects RX7 yX7_keep yX7_keep : Cond) ∈ AL := al_mem 1 (by decide +kernel)
theorem qS_X4_dropOldest : (.selects RX4 yX4_dropOldest yX4_dropOldest : Cond) ∈ AL := al_mem 2 (by decide +kernel)
theorem qS_X2_sail : (.selects RX2 yX2_sail yX2_sail : Cond) ∈ AL := al_mem 3 (by decide +kernel)
theorem qS_X2_fixturesInTime : (.selects RX2 yX2_fixturesInTime yX2_fixturesInTime : Cond) ∈ AL := al_mem 4 (by decide +kernel)
theorem qS_X2_dropFixtures : (.selects RX2 yX2_dropFixtures yX2_dropFixtures : Cond) ∈ AL := al_mem 5 (by decide +kernel)
theorem qS_X7_tryOrders : (.selects RX7 yX7_tryOrders yX7_tryOrders : Cond) ∈ AL := al_mem 6 (by decide +kernel)
theorem qS_X5_at : (.selects RX5 yX5_at yX5_at : Cond) ∈ AL := al_mem 7 (by decide +kernel)
theorem qS_X5_readNumber : (.selects RX5 yX5_readNumber yX5_readNumber : Cond) ∈ AL := al_mem 8 (by decide +kernel)
theorem qS_X7_obey : (.selects RX7 yX7_obey yX7_obey : Cond) ∈ AL := al_mem 9 (by decide +kernel)
theorem qS_X8_cargoes : (.selects RX8 yX8_cargoes yX8_cargoes : Cond) ∈ AL := al_mem 10 (by decide +kernel)
theorem qS_X8_keeps : (.selects RX8 yX8_keeps yX8_keeps : Cond) ∈ AL := al_mem 11 (by decide +kernel)
theorem qS_X8_copies : (.selects RX8 yX8_copies yX8_copies : Cond) ∈ AL := al_mem 12 (by decide +kernel)
theorem qS_X8_acted : (.selects RX8 yX8_acted yX8_acted : Cond) ∈ AL := al_mem 13 (by decide +kernel)
theorem qS_X8_doShip : (.selects RX8 yX8_doShip yX8_doShip : Cond) ∈ AL := al_mem 14 (by decide +kernel)
theorem qS_X8_doCargo : (.selects RX8 yX8_doCargo yX8_doCargo : Cond) ∈ AL := al_mem 15 (by decide +kernel)
theorem qS_X8_doFix : (.selects RX8 yX8_doFix yX8_doFix : Cond) ∈ AL := al_mem 16 (by decide +kernel)
theorem qS_X8_isShip : (.selects RX8 yX8_isShip yX8_isShip : Cond) ∈ AL := al_mem 17 (by decide +kernel)
theorem qS_X8_isCargo : (.selects RX8 yX8_isCargo yX8_isCargo : Cond) ∈ AL := al_mem 18 (by decide +kernel)
theorem qS_X8_could : (.selects RX8 yX8_could yX8_could : Cond) ∈ AL := al_mem 19 (by decide +kernel)
theorem qS_X8_goesAll : (.selects RX8 yX8_goesAll yX8_goesAll : Cond) ∈ AL := al_mem 20 (by decide +kernel)
theorem qS_X8_goes : (.selects RX8 yX8_goes yX8_goes : Cond) ∈ AL := al_mem 21 (by decide +kernel)
theorem qS_X8_looks : (.selects RX8 yX8_looks yX8_looks : Cond) ∈ AL := al_mem 22 (by decide +kernel)
theorem qS_X8_sails : (.selects RX8 yX8_sails yX8_sails : Cond) ∈ AL := al_mem 23 (by decide +kernel)
theorem qS_X8_far : (.selects RX8 yX8_far yX8_far : Cond) ∈ AL := al_mem 24 (by decide +kernel)
theorem qS_X8_isLate : (.selects RX8 yX8_isLate yX8_isLate : Cond) ∈ AL := al_mem 25 (by decide +kernel)
theorem qS_X8_fixes : (.selects RX8 yX8_fixes yX8_fixes : Cond) ∈ AL := al_mem 26 (by decide +kernel)
theorem qS_X8_doDelay : (.selects RX8 yX8_doDelay yX8_doDelay : Cond) ∈ AL := al_mem 27 (by decide +kernel)
theorem qS_X8_accounts : (.selects RX8 yX8_accounts yX8_accounts : Cond) ∈ AL := al_mem 28 (by decide +kernel)
theorem qS_X8_goesOn : (.selects RX8 yX8_goesOn yX8_goesOn : Cond) ∈ AL := al_mem 29 (by decide +kernel)
theorem qS_X8_sign : (.selects RX8 yX8_sign yX8_sign : Cond) ∈ AL := al_mem 30 (by decide +kernel)
theorem qS_X8_order : (.selects RX8 yX8_order yX8_order : Cond) ∈ AL := al_mem 31 (by decide +kernel)
theorem qS_X8_takes : (.selects RX8 yX8_takes yX8_takes : Cond) ∈ AL := al_mem 32 (by decide +kernel)
theorem qS_X8_number : (.selects RX8 yX8_number yX8_number : Cond) ∈ AL := al_mem 33 (by decide +kernel)
theorem qS_X8_does : (.selects RX8 yX8_does yX8_does : Cond) ∈ AL := al_mem 34 (by decide +kernel)
theorem qi_L : (.initialized RL : Cond) ∈ AL := al_mem 35 (by decide +kernel)
theorem qi_X7 : (.initialized RX7 : Cond) ∈ AL := al_mem 36 (by decide +kernel)
theorem qi_X2 : (.initialized RX2 : Cond) ∈ AL := al_mem 37 (by decide +kernel)
theorem qi_X1 : (.initialized RX1 : Cond) ∈ AL := al_mem 38 (by decide +kernel)
theorem qi_X6 : (.initialized RX6 : Cond) ∈ AL := al_mem 39 (by decide +kernel)
theorem qi_X0 : (.initialized RX0 : Cond) ∈ AL := al_mem 40 (by decide +kernel)
theorem qi_X4 : (.initialized RX4 : Cond) ∈ AL := al_mem 41 (by decide +kernel)
theorem qi_X5 : (.initialized RX5 : Cond) ∈ AL := al_mem 42 (by decide +kernel)
theorem qi_X3 : (.initialized RX3 : Cond) ∈ AL := al_mem 43 (by decide +kernel)
theorem qi_X8 : (.initialized RX8 : Cond) ∈ AL := al_mem 44 (by decide +kernel)
theorem qi_J10 : (.initialized RJ10 : Cond) ∈ AL := al_mem 45 (by decide +kernel)
theorem qi_J9 : (.initialized RJ9 : Cond) ∈ AL := al_mem 46 (by decide +kernel)
theorem qi_Jxf58ca : (.initialized RJxf58ca : Cond) ∈ AL := al_mem 47 (by decide +kernel)
theorem qi_J13 : (.initialized RJ13 : Cond) ∈ AL := al_mem 48 (by decide +kernel)
theorem qK_L_7 : (.classLink RL 7 RX7 : Cond) ∈ AL := al_mem 49 (by decide +kernel)
theorem qn_X7 : (.instantiable RX7 5 : Cond) ∈ AL := al_mem 50 (by decide +kernel)
theorem qM_L_9 : (.methodLink RL 9 yX7_init : Cond) ∈ AL := al_mem 51 (by decide +kernel)
theorem qI_X7_init : (.instanceMethod yX7_init : Cond) ∈ AL := al_mem 52 (by decide +kernel)
theorem qC_X7_init : (.code yX7_init cX7_init 1 none : Cond) ∈ AL := al_mem 53 (by decide +kernel)
theorem qM_X7_1 : (.methodLink RX7 1 objectInit : Cond) ∈ AL := al_mem 54 (by decide +kernel)
theorem qI_O_init : (.instanceMethod objectInit : Cond) ∈ AL := al_mem 55 (by decide +kernel)
theorem qC_O_init : (.code objectInit ⟨#[0xb1]⟩ 1 none : Cond) ∈ AL := al_mem 56 (by decide +kernel)
theorem qK_X7_7 : (.classLink RX7 7 RX2 : Cond) ∈ AL := al_mem 57 (by decide +kernel)
theorem qn_X2 : (.instantiable RX2 12 : Cond) ∈ AL := al_mem 58 (by decide +kernel)
theorem qM_X7_9 : (.methodLink RX7 9 yX2_init : Cond) ∈ AL := al_mem 59 (by decide +kernel)
theorem qI_X2_init : (.instanceMethod yX2_init : Cond) ∈ AL := al_mem 60 (by decide +kernel)
theorem qC_X2_init : (.code yX2_init cX2_init 2 none : Cond) ∈ AL := al_mem 61 (by decide +kernel)
theorem qM_X2_3 : (.methodLink RX2 3 objectInit : Cond) ∈ AL := al_mem 62 (by decide +kernel)
theorem qK_X2_18 : (.classLink RX2 18 RX6 : Cond) ∈ AL := al_mem 63 (by decide +kernel)
theorem qK_X2_24 : (.classLink RX2 24 RX0 : Cond) ∈ AL := al_mem 65 (by decide +kernel)
theorem qK_X2_30 : (.classLink RX2 30 RX1 : Cond) ∈ AL := al_mem 67 (by decide +kernel)
theorem qn_X1 : (.instantiable RX1 8 : Cond) ∈ AL := al_mem 68 (by decide +kernel)
theorem qI_X1_init : (.instanceMethod yX1_init : Cond) ∈ AL := al_mem 70 (by decide +kernel)
theorem qC_X1_init : (.code yX1_init cX1_init 1 none : Cond) ∈ AL := al_mem 71 (by decide +kernel)
theorem qM_X1_1 : (.methodLink RX1 1 objectInit : Cond) ∈ AL := al_mem 72 (by decide +kernel)
theorem qF_X1_13 : (.fieldLink RX1 13 "ShipFixtures$Course" "port" "I" : Cond) ∈ AL := al_mem 73 (by decide +kernel)
theorem qF_X7_98 : (.fieldLink RX7 98 "ShipFixtures$Course" "port" "I" : Cond) ∈ AL := al_mem 74 (by decide +kernel)
theorem qF_X2_162 : (.fieldLink RX2 162 "ShipFixtures$Course" "port" "I" : Cond) ∈ AL := al_mem 75 (by decide +kernel)
theorem qF_X1_21 : (.fieldLink RX1 21 "ShipFixtures$Course" "day" "I" : Cond) ∈ AL := al_mem 76 (by decide +kernel)
theorem qF_X2_135 : (.fieldLink RX2 135 "ShipFixtures$Course" "day" "I" : Cond) ∈ AL := al_mem 77 (by decide +kernel)
theorem qF_X7_103 : (.fieldLink RX7 103 "ShipFixtures$Course" "day" "I" : Cond) ∈ AL := al_mem 78 (by decide +kernel)
theorem qF_X7_168 : (.fieldLink RX7 168 "ShipFixtures$Course" "arrival" "I" : Cond) ∈ AL := al_mem 79 (by decide +kernel)
theorem qF_X2_180 : (.fieldLink RX2 180 "ShipFixtures$Course" "arrival" "I" : Cond) ∈ AL := al_mem 80 (by decide +kernel)
theorem qF_X7_171 : (.fieldLink RX7 171 "ShipFixtures$Course" "loading" "I" : Cond) ∈ AL := al_mem 81 (by decide +kernel)
theorem qF_X2_191 : (.fieldLink RX2 191 "ShipFixtures$Course" "loading" "I" : Cond) ∈ AL := al_mem 82 (by decide +kernel)
theorem qF_X1_27 : (.fieldLink RX1 27 "ShipFixtures$Course" "days" "I" : Cond) ∈ AL := al_mem 83 (by decide +kernel)
theorem qF_X7_193 : (.fieldLink RX7 193 "ShipFixtures$Course" "days" "I" : Cond) ∈ AL := al_mem 84 (by decide +kernel)
theorem qF_X2_194 : (.fieldLink RX2 194 "ShipFixtures$Course" "days" "I" : Cond) ∈ AL := al_mem 85 (by decide +kernel)
theorem qF_X1_30 : (.fieldLink RX1 30 "ShipFixtures$Course" "earns" "I" : Cond) ∈ AL := al_mem 86 (by decide +kernel)
theorem qF_X7_174 : (.fieldLink RX7 174 "ShipFixtures$Course" "earns" "I" : Cond) ∈ AL := al_mem 87 (by decide +kernel)
theorem qF_X2_197 : (.fieldLink RX2 197 "ShipFixtures$Course" "earns" "I" : Cond) ∈ AL := al_mem 88 (by decide +kernel)
theorem qF_X1_24 : (.fieldLink RX1 24 "ShipFixtures$Course" "earnsTogether" "I" : Cond) ∈ AL := al_mem 89 (by decide +kernel)
theorem qF_X7_119 : (.fieldLink RX7 119 "ShipFixtures$Course" "earnsTogether" "I" : Cond) ∈ AL := al_mem 90 (by decide +kernel)
theorem qF_X2_159 : (.fieldLink RX2 159 "ShipFixtures$Course" "earnsTogether" "I" : Cond) ∈ AL := al_mem 91 (by decide +kernel)
theorem qF_X7_177 : (.fieldLink RX7 177 "ShipFixtures$Course" "margin" "I" : Cond) ∈ AL := al_mem 92 (by decide +kernel)
theorem qF_X2_183 : (.fieldLink RX2 183 "ShipFixtures$Course" "margin" "I" : Cond) ∈ AL := al_mem 93 (by decide +kernel)
theorem qA_int : (.arrayClass .int : Cond) ∈ AL := al_mem 111 (by decide +kernel)
theorem qn_X6 : (.instantiable RX6 8 : Cond) ∈ AL := al_mem 112 (by decide +kernel)
theorem qI_X6_init : (.instanceMethod yX6_init : Cond) ∈ AL := al_mem 114 (by decide +kernel)
theorem qC_X6_init : (.code yX6_init cX6_init 1 none : Cond) ∈ AL := al_mem 115 (by decide +kernel)
theorem qM_X6_3 : (.methodLink RX6 3 objectInit : Cond) ∈ AL := al_mem 116 (by decide +kernel)
theorem qF_X6_15 : (.fieldLink RX6 15 "ShipFixtures$Ship" "size" "I" : Cond) ∈ AL := al_mem 117 (by decide +kernel)
theorem qF_X2_80 : (.fieldLink RX2 80 "ShipFixtures$Ship" "size" "I" : Cond) ∈ AL := al_mem 118 (by decide +kernel)
theorem qF_X7_82 : (.fieldLink RX7 82 "ShipFixtures$Ship" "size" "I" : Cond) ∈ AL := al_mem 119 (by decide +kernel)
theorem qF_X6_19 : (.fieldLink RX6 19 "ShipFixtures$Ship" "speed" "I" : Cond) ∈ AL := al_mem 120 (by decide +kernel)
theorem qF_X2_83 : (.fieldLink RX2 83 "ShipFixtures$Ship" "speed" "I" : Cond) ∈ AL := al_mem 121 (by decide +kernel)
theorem qF_X7_88 : (.fieldLink RX7 88 "ShipFixtures$Ship" "speed" "I" : Cond) ∈ AL := al_mem 122 (by decide +kernel)
theorem qF_X6_22 : (.fieldLink RX6 22 "ShipFixtures$Ship" "cost" "I" : Cond) ∈ AL := al_mem 123 (by decide +kernel)
theorem qF_X2_86 : (.fieldLink RX2 86 "ShipFixtures$Ship" "cost" "I" : Cond) ∈ AL := al_mem 124 (by decide +kernel)
theorem qF_X7_91 : (.fieldLink RX7 91 "ShipFixtures$Ship" "cost" "I" : Cond) ∈ AL := al_mem 125 (by decide +kernel)
theorem qF_X1_7 : (.fieldLink RX1 7 "ShipFixtures$Ship" "firstPort" "I" : Cond) ∈ AL := al_mem 126 (by decide +kernel)
theorem qF_X6_25 : (.fieldLink RX6 25 "ShipFixtures$Ship" "firstPort" "I" : Cond) ∈ AL := al_mem 127 (by decide +kernel)
theorem qF_X2_89 : (.fieldLink RX2 89 "ShipFixtures$Ship" "firstPort" "I" : Cond) ∈ AL := al_mem 128 (by decide +kernel)
theorem qF_X7_106 : (.fieldLink RX7 106 "ShipFixtures$Ship" "firstPort" "I" : Cond) ∈ AL := al_mem 129 (by decide +kernel)
theorem qF_X1_18 : (.fieldLink RX1 18 "ShipFixtures$Ship" "firstDay" "I" : Cond) ∈ AL := al_mem 130 (by decide +kernel)
theorem qF_X6_28 : (.fieldLink RX6 28 "ShipFixtures$Ship" "firstDay" "I" : Cond) ∈ AL := al_mem 131 (by decide +kernel)
theorem qF_X2_92 : (.fieldLink RX2 92 "ShipFixtures$Ship" "firstDay" "I" : Cond) ∈ AL := al_mem 132 (by decide +kernel)
theorem qF_X7_109 : (.fieldLink RX7 109 "ShipFixtures$Ship" "firstDay" "I" : Cond) ∈ AL := al_mem 133 (by decide +kernel)
theorem qF_X6_31 : (.fieldLink RX6 31 "ShipFixtures$Ship" "account" "I" : Cond) ∈ AL := al_mem 134 (by decide +kernel)
theorem qF_X7_115 : (.fieldLink RX7 115 "ShipFixtures$Ship" "account" "I" : Cond) ∈ AL := al_mem 135 (by decide +kernel)
theorem qF_X2_152 : (.fieldLink RX2 152 "ShipFixtures$Ship" "account" "I" : Cond) ∈ AL := al_mem 136 (by decide +kernel)
theorem qF_X6_34 : (.fieldLink RX6 34 "ShipFixtures$Ship" "fixtureCount" "I" : Cond) ∈ AL := al_mem 137 (by decide +kernel)
theorem qF_X2_126 : (.fieldLink RX2 126 "ShipFixtures$Ship" "fixtureCount" "I" : Cond) ∈ AL := al_mem 138 (by decide +kernel)
theorem qF_X7_112 : (.fieldLink RX7 112 "ShipFixtures$Ship" "fixtureCount" "I" : Cond) ∈ AL := al_mem 139 (by decide +kernel)
theorem qF_X6_9 : (.fieldLink RX6 9 "ShipFixtures$Ship" "fixtures" "[I" : Cond) ∈ AL := al_mem 140 (by decide +kernel)
theorem qF_X2_129 : (.fieldLink RX2 129 "ShipFixtures$Ship" "fixtures" "[I" : Cond) ∈ AL := al_mem 141 (by decide +kernel)
theorem qF_X7_164 : (.fieldLink RX7 164 "ShipFixtures$Ship" "fixtures" "[I" : Cond) ∈ AL := al_mem 142 (by decide +kernel)
theorem qn_X0 : (.instantiable RX0 8 : Cond) ∈ AL := al_mem 160 (by decide +kernel)
theorem qI_X0_init : (.instanceMethod yX0_init : Cond) ∈ AL := al_mem 162 (by decide +kernel)
theorem qC_X0_init : (.code yX0_init cX0_init 1 none : Cond) ∈ AL := al_mem 163 (by decide +kernel)
theorem qM_X0_1 : (.methodLink RX0 1 objectInit : Cond) ∈ AL := al_mem 164 (by decide +kernel)
theorem qF_X0_7 : (.fieldLink RX0 7 "ShipFixtures$Cargo" "amount" "I" : Cond) ∈ AL := al_mem 165 (by decide +kernel)
theorem qF_X2_95 : (.fieldLink RX2 95 "ShipFixtures$Cargo" "amount" "I" : Cond) ∈ AL := al_mem 166 (by decide +kernel)
theorem qF_X7_129 : (.fieldLink RX7 129 "ShipFixtures$Cargo" "amount" "I" : Cond) ∈ AL := al_mem 167 (by decide +kernel)
theorem qF_X0_13 : (.fieldLink RX0 13 "ShipFixtures$Cargo" "loads" "I" : Cond) ∈ AL := al_mem 168 (by decide +kernel)
theorem qF_X2_98 : (.fieldLink RX2 98 "ShipFixtures$Cargo" "loads" "I" : Cond) ∈ AL := al_mem 169 (by decide +kernel)
theorem qF_X7_134 : (.fieldLink RX7 134 "ShipFixtures$Cargo" "loads" "I" : Cond) ∈ AL := al_mem 170 (by decide +kernel)
theorem qF_X0_16 : (.fieldLink RX0 16 "ShipFixtures$Cargo" "unloads" "I" : Cond) ∈ AL := al_mem 171 (by decide +kernel)
theorem qF_X2_101 : (.fieldLink RX2 101 "ShipFixtures$Cargo" "unloads" "I" : Cond) ∈ AL := al_mem 172 (by decide +kernel)
theorem qF_X7_137 : (.fieldLink RX7 137 "ShipFixtures$Cargo" "unloads" "I" : Cond) ∈ AL := al_mem 173 (by decide +kernel)
theorem qF_X0_19 : (.fieldLink RX0 19 "ShipFixtures$Cargo" "first" "I" : Cond) ∈ AL := al_mem 174 (by decide +kernel)
theorem qF_X2_104 : (.fieldLink RX2 104 "ShipFixtures$Cargo" "first" "I" : Cond) ∈ AL := al_mem 175 (by decide +kernel)
theorem qF_X7_140 : (.fieldLink RX7 140 "ShipFixtures$Cargo" "first" "I" : Cond) ∈ AL := al_mem 176 (by decide +kernel)
theorem qF_X0_22 : (.fieldLink RX0 22 "ShipFixtures$Cargo" "last" "I" : Cond) ∈ AL := al_mem 177 (by decide +kernel)
theorem qF_X2_107 : (.fieldLink RX2 107 "ShipFixtures$Cargo" "last" "I" : Cond) ∈ AL := al_mem 178 (by decide +kernel)
theorem qF_X7_143 : (.fieldLink RX7 143 "ShipFixtures$Cargo" "last" "I" : Cond) ∈ AL := al_mem 179 (by decide +kernel)
theorem qF_X0_25 : (.fieldLink RX0 25 "ShipFixtures$Cargo" "freight" "I" : Cond) ∈ AL := al_mem 180 (by decide +kernel)
theorem qF_X2_110 : (.fieldLink RX2 110 "ShipFixtures$Cargo" "freight" "I" : Cond) ∈ AL := al_mem 181 (by decide +kernel)
theorem qF_X7_146 : (.fieldLink RX7 146 "ShipFixtures$Cargo" "freight" "I" : Cond) ∈ AL := al_mem 182 (by decide +kernel)
theorem qF_X0_28 : (.fieldLink RX0 28 "ShipFixtures$Cargo" "state" "I" : Cond) ∈ AL := al_mem 183 (by decide +kernel)
theorem qF_X2_119 : (.fieldLink RX2 119 "ShipFixtures$Cargo" "state" "I" : Cond) ∈ AL := al_mem 184 (by decide +kernel)
theorem qF_X7_149 : (.fieldLink RX7 149 "ShipFixtures$Cargo" "state" "I" : Cond) ∈ AL := al_mem 185 (by decide +kernel)
theorem qF_X0_31 : (.fieldLink RX0 31 "ShipFixtures$Cargo" "ship" "I" : Cond) ∈ AL := al_mem 186 (by decide +kernel)
theorem qF_X2_132 : (.fieldLink RX2 132 "ShipFixtures$Cargo" "ship" "I" : Cond) ∈ AL := al_mem 187 (by decide +kernel)
theorem qF_X7_152 : (.fieldLink RX7 152 "ShipFixtures$Cargo" "ship" "I" : Cond) ∈ AL := al_mem 188 (by decide +kernel)
theorem qF_X2_9 : (.fieldLink RX2 9 "ShipFixtures$Desk" "x" "[I" : Cond) ∈ AL := al_mem 206 (by decide +kernel)
theorem qF_X2_15 : (.fieldLink RX2 15 "ShipFixtures$Desk" "y" "[I" : Cond) ∈ AL := al_mem 207 (by decide +kernel)
theorem qF_X2_20 : (.fieldLink RX2 20 "ShipFixtures$Desk" "ships" "[LShipFixtures$Ship;" : Cond) ∈ AL := al_mem 208 (by decide +kernel)
theorem qF_X7_78 : (.fieldLink RX7 78 "ShipFixtures$Desk" "ships" "[LShipFixtures$Ship;" : Cond) ∈ AL := al_mem 209 (by decide +kernel)
theorem qF_X2_26 : (.fieldLink RX2 26 "ShipFixtures$Desk" "cargoes" "[LShipFixtures$Cargo;" : Cond) ∈ AL := al_mem 210 (by decide +kernel)
theorem qF_X7_125 : (.fieldLink RX7 125 "ShipFixtures$Desk" "cargoes" "[LShipFixtures$Cargo;" : Cond) ∈ AL := al_mem 211 (by decide +kernel)
theorem qF_X2_52 : (.fieldLink RX2 52 "ShipFixtures$Desk" "shipCount" "I" : Cond) ∈ AL := al_mem 212 (by decide +kernel)
theorem qF_X7_211 : (.fieldLink RX7 211 "ShipFixtures$Desk" "shipCount" "I" : Cond) ∈ AL := al_mem 213 (by decide +kernel)
theorem qF_X2_56 : (.fieldLink RX2 56 "ShipFixtures$Desk" "cargoCount" "I" : Cond) ∈ AL := al_mem 214 (by decide +kernel)
theorem qF_X7_200 : (.fieldLink RX7 200 "ShipFixtures$Desk" "cargoCount" "I" : Cond) ∈ AL := al_mem 215 (by decide +kernel)
theorem qF_X2_59 : (.fieldLink RX2 59 "ShipFixtures$Desk" "cancelled" "I" : Cond) ∈ AL := al_mem 216 (by decide +kernel)
theorem qF_X7_246 : (.fieldLink RX7 246 "ShipFixtures$Desk" "cancelled" "I" : Cond) ∈ AL := al_mem 217 (by decide +kernel)
theorem qF_X2_62 : (.fieldLink RX2 62 "ShipFixtures$Desk" "calledOff" "I" : Cond) ∈ AL := al_mem 218 (by decide +kernel)
theorem qF_X7_249 : (.fieldLink RX7 249 "ShipFixtures$Desk" "calledOff" "I" : Cond) ∈ AL := al_mem 219 (by decide +kernel)
theorem qF_X2_33 : (.fieldLink RX2 33 "ShipFixtures$Desk" "course" "LShipFixtures$Course;" : Cond) ∈ AL := al_mem 220 (by decide +kernel)
theorem qF_X7_189 : (.fieldLink RX7 189 "ShipFixtures$Desk" "course" "LShipFixtures$Course;" : Cond) ∈ AL := al_mem 221 (by decide +kernel)
theorem qF_X7_214 : (.fieldLink RX7 214 "ShipFixtures$Desk" "chosenShip" "I" : Cond) ∈ AL := al_mem 222 (by decide +kernel)
theorem qF_X2_207 : (.fieldLink RX2 207 "ShipFixtures$Desk" "chosenShip" "I" : Cond) ∈ AL := al_mem 223 (by decide +kernel)
theorem qF_X7_207 : (.fieldLink RX7 207 "ShipFixtures$Desk" "chosenCargo" "I" : Cond) ∈ AL := al_mem 224 (by decide +kernel)
theorem qF_X2_210 : (.fieldLink RX2 210 "ShipFixtures$Desk" "chosenCargo" "I" : Cond) ∈ AL := al_mem 225 (by decide +kernel)
theorem qF_X7_221 : (.fieldLink RX7 221 "ShipFixtures$Desk" "chosenEarns" "I" : Cond) ∈ AL := al_mem 226 (by decide +kernel)
theorem qF_X2_204 : (.fieldLink RX2 204 "ShipFixtures$Desk" "chosenEarns" "I" : Cond) ∈ AL := al_mem 227 (by decide +kernel)
theorem qK_X7_19 : (.classLink RX7 19 RX4 : Cond) ∈ AL := al_mem 253 (by decide +kernel)
theorem qn_X4 : (.instantiable RX4 2 : Cond) ∈ AL := al_mem 254 (by decide +kernel)
theorem qM_X7_21 : (.methodLink RX7 21 yX4_init : Cond) ∈ AL := al_mem 255 (by decide +kernel)
theorem qI_X4_init : (.instanceMethod yX4_init : Cond) ∈ AL := al_mem 256 (by decide +kernel)
theorem qC_X4_init : (.code yX4_init cX4_init 2 none : Cond) ∈ AL := al_mem 257 (by decide +kernel)
theorem qM_X4_3 : (.methodLink RX4 3 objectInit : Cond) ∈ AL := al_mem 258 (by decide +kernel)
theorem qK_X4_9 : (.classLink RX4 9 RX2 : Cond) ∈ AL := al_mem 259 (by decide +kernel)
theorem qM_X4_17 : (.methodLink RX4 17 yX2_init : Cond) ∈ AL := al_mem 261 (by decide +kernel)
theorem qF_X4_11 : (.fieldLink RX4 11 "ShipFixtures$History" "states" "[LShipFixtures$Desk;" : Cond) ∈ AL := al_mem 262 (by decide +kernel)
theorem qF_X4_18 : (.fieldLink RX4 18 "ShipFixtures$History" "size" "I" : Cond) ∈ AL := al_mem 263 (by decide +kernel)
theorem qF_X7_252 : (.fieldLink RX7 252 "ShipFixtures$History" "size" "I" : Cond) ∈ AL := al_mem 264 (by decide +kernel)
theorem qK_X7_26 : (.classLink RX7 26 RX5 : Cond) ∈ AL := al_mem 270 (by decide +kernel)
theorem qn_X5 : (.instantiable RX5 5 : Cond) ∈ AL := al_mem 271 (by decide +kernel)
theorem qI_X5_init : (.instanceMethod yX5_init : Cond) ∈ AL := al_mem 273 (by decide +kernel)
theorem qC_X5_init : (.code yX5_init cX5_init 1 none : Cond) ∈ AL := al_mem 274 (by decide +kernel)
theorem qM_X5_3 : (.methodLink RX5 3 objectInit : Cond) ∈ AL := al_mem 275 (by decide +kernel)
theorem qF_X5_9 : (.fieldLink RX5 9 "ShipFixtures$Script" "characters" "[C" : Cond) ∈ AL := al_mem 276 (by decide +kernel)
theorem qF_X5_19 : (.fieldLink RX5 19 "ShipFixtures$Script" "length" "I" : Cond) ∈ AL := al_mem 277 (by decide +kernel)
theorem qF_X7_253 : (.fieldLink RX7 253 "ShipFixtures$Script" "length" "I" : Cond) ∈ AL := al_mem 278 (by decide +kernel)
theorem qF_X5_30 : (.fieldLink RX5 30 "ShipFixtures$Script" "kind" "C" : Cond) ∈ AL := al_mem 279 (by decide +kernel)
theorem qF_X7_300 : (.fieldLink RX7 300 "ShipFixtures$Script" "kind" "C" : Cond) ∈ AL := al_mem 280 (by decide +kernel)
theorem qF_X5_15 : (.fieldLink RX5 15 "ShipFixtures$Script" "numbers" "[I" : Cond) ∈ AL := al_mem 281 (by decide +kernel)
theorem qF_X7_304 : (.fieldLink RX7 304 "ShipFixtures$Script" "numbers" "[I" : Cond) ∈ AL := al_mem 282 (by decide +kernel)
theorem qF_X5_23 : (.fieldLink RX5 23 "ShipFixtures$Script" "end" "I" : Cond) ∈ AL := al_mem 283 (by decide +kernel)
theorem qF_X7_293 : (.fieldLink RX7 293 "ShipFixtures$Script" "end" "I" : Cond) ∈ AL := al_mem 284 (by decide +kernel)
theorem qA_char : (.arrayClass .char : Cond) ∈ AL := al_mem 296 (by decide +kernel)
theorem qK_X7_33 : (.classLink RX7 33 RX3 : Cond) ∈ AL := al_mem 297 (by decide +kernel)
theorem qn_X3 : (.instantiable RX3 4 : Cond) ∈ AL := al_mem 298 (by decide +kernel)
theorem qI_X3_init : (.instanceMethod yX3_init : Cond) ∈ AL := al_mem 300 (by decide +kernel)
theorem qC_X3_init : (.code yX3_init cX3_init 1 none : Cond) ∈ AL := al_mem 301 (by decide +kernel)
theorem qM_X3_1 : (.methodLink RX3 1 objectInit : Cond) ∈ AL := al_mem 302 (by decide +kernel)
theorem qF_X7_277 : (.fieldLink RX7 277 "ShipFixtures$Finding" "orders" "I" : Cond) ∈ AL := al_mem 303 (by decide +kernel)
theorem qF_X3_7 : (.fieldLink RX3 7 "ShipFixtures$Finding" "position" "I" : Cond) ∈ AL := al_mem 304 (by decide +kernel)
theorem qF_X7_268 : (.fieldLink RX7 268 "ShipFixtures$Finding" "position" "I" : Cond) ∈ AL := al_mem 305 (by decide +kernel)
theorem qF_X3_13 : (.fieldLink RX3 13 "ShipFixtures$Finding" "reason" "I" : Cond) ∈ AL := al_mem 306 (by decide +kernel)
theorem qF_X7_271 : (.fieldLink RX7 271 "ShipFixtures$Finding" "reason" "I" : Cond) ∈ AL := al_mem 307 (by decide +kernel)
theorem qF_X3_16 : (.fieldLink RX3 16 "ShipFixtures$Finding" "cause" "I" : Cond) ∈ AL := al_mem 308 (by decide +kernel)
theorem qF_X7_274 : (.fieldLink RX7 274 "ShipFixtures$Finding" "cause" "I" : Cond) ∈ AL := al_mem 309 (by decide +kernel)
theorem qF_X7_10 : (.fieldLink RX7 10 "ShipFixtures" "desk" "LShipFixtures$Desk;" : Cond) ∈ AL := al_mem 319 (by decide +kernel)
theorem qF_X7_16 : (.fieldLink RX7 16 "ShipFixtures" "trial" "LShipFixtures$Desk;" : Cond) ∈ AL := al_mem 320 (by decide +kernel)
theorem qF_X7_22 : (.fieldLink RX7 22 "ShipFixtures" "history" "LShipFixtures$History;" : Cond) ∈ AL := al_mem 321 (by decide +kernel)
theorem qF_X7_29 : (.fieldLink RX7 29 "ShipFixtures" "script" "LShipFixtures$Script;" : Cond) ∈ AL := al_mem 322 (by decide +kernel)
theorem qF_X7_36 : (.fieldLink RX7 36 "ShipFixtures" "finding" "LShipFixtures$Finding;" : Cond) ∈ AL := al_mem 323 (by decide +kernel)
theorem qM_L_13 : (.methodLink RL 13 yX7_port : Cond) ∈ AL := al_mem 335 (by decide +kernel)
theorem qI_X7_port : (.instanceMethod yX7_port : Cond) ∈ AL := al_mem 336 (by decide +kernel)
theorem qS_X7_port : (.selects RX7 yX7_port yX7_port : Cond) ∈ AL := al_mem 337 (by decide +kernel)
theorem qC_X7_port : (.code yX7_port cX7_port 4 (some .int) : Cond) ∈ AL := al_mem 338 (by decide +kernel)
theorem qM_X7_40 : (.methodLink RX7 40 yX7_freshTrial : Cond) ∈ AL := al_mem 339 (by decide +kernel)
theorem qI_X7_freshTrial : (.instanceMethod yX7_freshTrial : Cond) ∈ AL := al_mem 341 (by decide +kernel)
theorem qC_X7_freshTrial : (.code yX7_freshTrial cX7_freshTrial 1 (some (.object "ShipFixtures$Desk")) : Cond) ∈ AL := al_mem 342 (by decide +kernel)
theorem qM_X7_280 : (.methodLink RX7 280 yX2_copyFrom : Cond) ∈ AL := al_mem 343 (by decide +kernel)
theorem qI_X2_copyFrom : (.instanceMethod yX2_copyFrom : Cond) ∈ AL := al_mem 344 (by decide +kernel)
theorem qS_X2_copyFrom : (.selects RX2 yX2_copyFrom yX2_copyFrom : Cond) ∈ AL := al_mem 345 (by decide +kernel)
theorem qC_X2_copyFrom : (.code yX2_copyFrom cX2_copyFrom 3 none : Cond) ∈ AL := al_mem 346 (by decide +kernel)
theorem qM_X2_39 : (.methodLink RX2 39 arraycopyName : Cond) ∈ AL := al_mem 347 (by decide +kernel)
theorem qT_Sys_arraycopy : (.static arraycopyName : Cond) ∈ AL := al_mem 348 (by decide +kernel)
theorem qN_Sys_arraycopy : (.native arraycopyName : Cond) ∈ AL := al_mem 349 (by decide +kernel)
theorem qM_X2_45 : (.methodLink RX2 45 yX6_copyFrom : Cond) ∈ AL := al_mem 350 (by decide +kernel)
theorem qI_X6_copyFrom : (.instanceMethod yX6_copyFrom : Cond) ∈ AL := al_mem 351 (by decide +kernel)
theorem qS_X6_copyFrom : (.selects RX6 yX6_copyFrom yX6_copyFrom : Cond) ∈ AL := al_mem 352 (by decide +kernel)
theorem qC_X6_copyFrom : (.code yX6_copyFrom cX6_copyFrom 2 none : Cond) ∈ AL := al_mem 353 (by decide +kernel)
theorem qM_X6_37 : (.methodLink RX6 37 arraycopyName : Cond) ∈ AL := al_mem 354 (by decide +kernel)
theorem qM_X2_49 : (.methodLink RX2 49 yX0_copyFrom : Cond) ∈ AL := al_mem 355 (by decide +kernel)
theorem qI_X0_copyFrom : (.instanceMethod yX0_copyFrom : Cond) ∈ AL := al_mem 356 (by decide +kernel)
theorem qS_X0_copyFrom : (.selects RX0 yX0_copyFrom yX0_copyFrom : Cond) ∈ AL := al_mem 357 (by decide +kernel)
theorem qC_X0_copyFrom : (.code yX0_copyFrom cX0_copyFrom 2 none : Cond) ∈ AL := al_mem 358 (by decide +kernel)
theorem qM_X7_44 : (.methodLink RX7 44 yX2_movePort : Cond) ∈ AL := al_mem 359 (by decide +kernel)
theorem qI_X2_movePort : (.instanceMethod yX2_movePort : Cond) ∈ AL := al_mem 360 (by decide +kernel)
theorem qS_X2_movePort : (.selects RX2 yX2_movePort yX2_movePort : Cond) ∈ AL := al_mem 361 (by decide +kernel)
theorem qC_X2_movePort : (.code yX2_movePort cX2_movePort 5 (some .int) : Cond) ∈ AL := al_mem 362 (by decide +kernel)
theorem qT_X7_isPort : (.static yX7_isPort : Cond) ∈ AL := al_mem 364 (by decide +kernel)
theorem qC_X7_isPort : (.code yX7_isPort cX7_isPort 1 (some .boolean) : Cond) ∈ AL := al_mem 365 (by decide +kernel)
theorem qM_X7_156 : (.methodLink RX7 156 yX7_isIn : Cond) ∈ AL := al_mem 366 (by decide +kernel)
theorem qT_X7_isIn : (.static yX7_isIn : Cond) ∈ AL := al_mem 367 (by decide +kernel)
theorem qC_X7_isIn : (.code yX7_isIn cX7_isIn 3 (some .boolean) : Cond) ∈ AL := al_mem 368 (by decide +kernel)
theorem qc_X2_73 : (.constant RX2 73 (-1000001) : Cond) ∈ AL := al_mem 370 (by decide +kernel)
theorem qM_X2_74 : (.methodLink RX2 74 yX2_cargoesThatAre : Cond) ∈ AL := al_mem 371 (by decide +kernel)
theorem qI_X2_cargoesThatAre : (.instanceMethod yX2_cargoesThatAre : Cond) ∈ AL := al_mem 372 (by decide +kernel)
theorem qS_X2_cargoesThatAre : (.selects RX2 yX2_cargoesThatAre yX2_cargoesThatAre : Cond) ∈ AL := al_mem 373 (by decide +kernel)
theorem qC_X2_cargoesThatAre : (.code yX2_cargoesThatAre cX2_cargoesThatAre 4 (some .int) : Cond) ∈ AL := al_mem 374 (by decide +kernel)
theorem qc_X2_78 : (.constant RX2 78 (-1000002) : Cond) ∈ AL := al_mem 375 (by decide +kernel)
theorem qM_X7_48 : (.methodLink RX7 48 yX7_keep : Cond) ∈ AL := al_mem 376 (by decide +kernel)
theorem qI_X7_keep : (.instanceMethod yX7_keep : Cond) ∈ AL := al_mem 378 (by decide +kernel)
theorem qC_X7_keep : (.code yX7_keep cX7_keep 2 (some .int) : Cond) ∈ AL := al_mem 379 (by decide +kernel)
theorem qM_X7_284 : (.methodLink RX7 284 yX7_isError : Cond) ∈ AL := al_mem 380 (by decide +kernel)
theorem qT_X7_isError : (.static yX7_isError : Cond) ∈ AL := al_mem 381 (by decide +kernel)
theorem qC_X7_isError : (.code yX7_isError cX7_isError 1 (some .boolean) : Cond) ∈ AL := al_mem 382 (by decide +kernel)
theorem qc_X7_155 : (.constant RX7 155 (-1000004) : Cond) ∈ AL := al_mem 383 (by decide +kernel)
theorem qc_X7_77 : (.constant RX7 77 (-1000001) : Cond) ∈ AL := al_mem 384 (by decide +kernel)
theorem qM_X7_287 : (.methodLink RX7 287 yX4_record : Cond) ∈ AL := al_mem 385 (by decide +kernel)
theorem qI_X4_record : (.instanceMethod yX4_record : Cond) ∈ AL := al_mem 386 (by decide +kernel)
theorem qS_X4_record : (.selects RX4 yX4_record yX4_record : Cond) ∈ AL := al_mem 387 (by decide +kernel)
theorem qC_X4_record : (.code yX4_record cX4_record 2 none : Cond) ∈ AL := al_mem 388 (by decide +kernel)
theorem qM_X4_22 : (.methodLink RX4 22 yX4_dropOldest : Cond) ∈ AL := al_mem 389 (by decide +kernel)
theorem qI_X4_dropOldest : (.instanceMethod yX4_dropOldest : Cond) ∈ AL := al_mem 391 (by decide +kernel)
theorem qC_X4_dropOldest : (.code yX4_dropOldest cX4_dropOldest 3 none : Cond) ∈ AL := al_mem 392 (by decide +kernel)
theorem qM_X4_25 : (.methodLink RX4 25 yX2_copyFrom : Cond) ∈ AL := al_mem 393 (by decide +kernel)
theorem qM_L_18 : (.methodLink RL 18 yX7_ship : Cond) ∈ AL := al_mem 394 (by decide +kernel)
theorem qI_X7_ship : (.instanceMethod yX7_ship : Cond) ∈ AL := al_mem 395 (by decide +kernel)
theorem qS_X7_ship : (.selects RX7 yX7_ship yX7_ship : Cond) ∈ AL := al_mem 396 (by decide +kernel)
theorem qC_X7_ship : (.code yX7_ship cX7_ship 6 (some .int) : Cond) ∈ AL := al_mem 397 (by decide +kernel)
theorem qM_X7_52 : (.methodLink RX7 52 yX2_addShip : Cond) ∈ AL := al_mem 398 (by decide +kernel)
theorem qI_X2_addShip : (.instanceMethod yX2_addShip : Cond) ∈ AL := al_mem 399 (by decide +kernel)
theorem qS_X2_addShip : (.selects RX2 yX2_addShip yX2_addShip : Cond) ∈ AL := al_mem 400 (by decide +kernel)
theorem qC_X2_addShip : (.code yX2_addShip cX2_addShip 7 (some .int) : Cond) ∈ AL := al_mem 401 (by decide +kernel)
theorem qc_X2_79 : (.constant RX2 79 (-1000003) : Cond) ∈ AL := al_mem 402 (by decide +kernel)
theorem qM_L_23 : (.methodLink RL 23 yX7_cargo : Cond) ∈ AL := al_mem 403 (by decide +kernel)
theorem qI_X7_cargo : (.instanceMethod yX7_cargo : Cond) ∈ AL := al_mem 404 (by decide +kernel)
theorem qS_X7_cargo : (.selects RX7 yX7_cargo yX7_cargo : Cond) ∈ AL := al_mem 405 (by decide +kernel)
theorem qC_X7_cargo : (.code yX7_cargo cX7_cargo 7 (some .int) : Cond) ∈ AL := al_mem 406 (by decide +kernel)
theorem qM_X7_56 : (.methodLink RX7 56 yX2_addCargo : Cond) ∈ AL := al_mem 407 (by decide +kernel)
theorem qI_X2_addCargo : (.instanceMethod yX2_addCargo : Cond) ∈ AL := al_mem 408 (by decide +kernel)
theorem qS_X2_addCargo : (.selects RX2 yX2_addCargo yX2_addCargo : Cond) ∈ AL := al_mem 409 (by decide +kernel)
theorem qC_X2_addCargo : (.code yX2_addCargo cX2_addCargo 8 (some .int) : Cond) ∈ AL := al_mem 410 (by decide +kernel)
theorem qM_L_28 : (.methodLink RL 28 yX7_fix : Cond) ∈ AL := al_mem 411 (by decide +kernel)
theorem qI_X7_fix : (.instanceMethod yX7_fix : Cond) ∈ AL := al_mem 412 (by decide +kernel)
theorem qS_X7_fix : (.selects RX7 yX7_fix yX7_fix : Cond) ∈ AL := al_mem 413 (by decide +kernel)
theorem qC_X7_fix : (.code yX7_fix cX7_fix 3 (some .int) : Cond) ∈ AL := al_mem 414 (by decide +kernel)
theorem qM_X7_60 : (.methodLink RX7 60 yX2_fixShip : Cond) ∈ AL := al_mem 415 (by decide +kernel)
theorem qI_X2_fixShip : (.instanceMethod yX2_fixShip : Cond) ∈ AL := al_mem 416 (by decide +kernel)
theorem qS_X2_fixShip : (.selects RX2 yX2_fixShip yX2_fixShip : Cond) ∈ AL := al_mem 417 (by decide +kernel)
theorem qC_X2_fixShip : (.code yX2_fixShip cX2_fixShip 5 (some .int) : Cond) ∈ AL := al_mem 418 (by decide +kernel)
theorem qM_X2_113 : (.methodLink RX2 113 yX2_isShip : Cond) ∈ AL := al_mem 419 (by decide +kernel)
theorem qI_X2_isShip : (.instanceMethod yX2_isShip : Cond) ∈ AL := al_mem 420 (by decide +kernel)
theorem qS_X2_isShip : (.selects RX2 yX2_isShip yX2_isShip : Cond) ∈ AL := al_mem 421 (by decide +kernel)
theorem qC_X2_isShip : (.code yX2_isShip cX2_isShip 2 (some .boolean) : Cond) ∈ AL := al_mem 422 (by decide +kernel)
theorem qM_X2_116 : (.methodLink RX2 116 yX2_isCargo : Cond) ∈ AL := al_mem 423 (by decide +kernel)
theorem qI_X2_isCargo : (.instanceMethod yX2_isCargo : Cond) ∈ AL := al_mem 424 (by decide +kernel)
theorem qS_X2_isCargo : (.selects RX2 yX2_isCargo yX2_isCargo : Cond) ∈ AL := al_mem 425 (by decide +kernel)
theorem qC_X2_isCargo : (.code yX2_isCargo cX2_isCargo 2 (some .boolean) : Cond) ∈ AL := al_mem 426 (by decide +kernel)
theorem qM_X2_122 : (.methodLink RX2 122 yX2_hindrance : Cond) ∈ AL := al_mem 427 (by decide +kernel)
theorem qI_X2_hindrance : (.instanceMethod yX2_hindrance : Cond) ∈ AL := al_mem 428 (by decide +kernel)
theorem qS_X2_hindrance : (.selects RX2 yX2_hindrance yX2_hindrance : Cond) ∈ AL := al_mem 429 (by decide +kernel)
theorem qC_X2_hindrance : (.code yX2_hindrance cX2_hindrance 3 (some .int) : Cond) ∈ AL := al_mem 430 (by decide +kernel)
theorem qM_X2_173 : (.methodLink RX2 173 yX2_follow : Cond) ∈ AL := al_mem 431 (by decide +kernel)
theorem qI_X2_follow : (.instanceMethod yX2_follow : Cond) ∈ AL := al_mem 432 (by decide +kernel)
theorem qS_X2_follow : (.selects RX2 yX2_follow yX2_follow : Cond) ∈ AL := al_mem 433 (by decide +kernel)
theorem qC_X2_follow : (.code yX2_follow cX2_follow 5 (some (.object "ShipFixtures$Course")) : Cond) ∈ AL := al_mem 434 (by decide +kernel)
theorem qM_X2_166 : (.methodLink RX2 166 yX1_begin : Cond) ∈ AL := al_mem 435 (by decide +kernel)
theorem qI_X1_begin : (.instanceMethod yX1_begin : Cond) ∈ AL := al_mem 436 (by decide +kernel)
theorem qS_X1_begin : (.selects RX1 yX1_begin yX1_begin : Cond) ∈ AL := al_mem 437 (by decide +kernel)
theorem qC_X1_begin : (.code yX1_begin cX1_begin 2 none : Cond) ∈ AL := al_mem 438 (by decide +kernel)
theorem qM_X2_169 : (.methodLink RX2 169 yX2_sail : Cond) ∈ AL := al_mem 439 (by decide +kernel)
theorem qI_X2_sail : (.instanceMethod yX2_sail : Cond) ∈ AL := al_mem 441 (by decide +kernel)
theorem qC_X2_sail : (.code yX2_sail cX2_sail 7 none : Cond) ∈ AL := al_mem 442 (by decide +kernel)
theorem qM_X2_177 : (.methodLink RX2 177 yX2_between : Cond) ∈ AL := al_mem 443 (by decide +kernel)
theorem qI_X2_between : (.instanceMethod yX2_between : Cond) ∈ AL := al_mem 444 (by decide +kernel)
theorem qS_X2_between : (.selects RX2 yX2_between yX2_between : Cond) ∈ AL := al_mem 445 (by decide +kernel)
theorem qC_X2_between : (.code yX2_between cX2_between 5 (some .int) : Cond) ∈ AL := al_mem 446 (by decide +kernel)
theorem qT_X7_divideUp : (.static yX7_divideUp : Cond) ∈ AL := al_mem 448 (by decide +kernel)
theorem qC_X7_divideUp : (.code yX7_divideUp cX7_divideUp 2 (some .int) : Cond) ∈ AL := al_mem 449 (by decide +kernel)
theorem qM_X2_186 : (.methodLink RX2 186 yJ9_max_7cf53 : Cond) ∈ AL := al_mem 450 (by decide +kernel)
theorem qT_J9_max_7cf53 : (.static yJ9_max_7cf53 : Cond) ∈ AL := al_mem 451 (by decide +kernel)
theorem qC_J9_max_7cf53 : (.code yJ9_max_7cf53 cJ9_max_7cf53 2 (some .int) : Cond) ∈ AL := al_mem 452 (by decide +kernel)
theorem qM_X2_145 : (.methodLink RX2 145 yX0_worth : Cond) ∈ AL := al_mem 453 (by decide +kernel)
theorem qI_X0_worth : (.instanceMethod yX0_worth : Cond) ∈ AL := al_mem 454 (by decide +kernel)
theorem qS_X0_worth : (.selects RX0 yX0_worth yX0_worth : Cond) ∈ AL := al_mem 455 (by decide +kernel)
theorem qC_X0_worth : (.code yX0_worth cX0_worth 1 (some .int) : Cond) ∈ AL := al_mem 456 (by decide +kernel)
theorem qM_L_33 : (.methodLink RL 33 yX7_delay : Cond) ∈ AL := al_mem 457 (by decide +kernel)
theorem qI_X7_delay : (.instanceMethod yX7_delay : Cond) ∈ AL := al_mem 458 (by decide +kernel)
theorem qS_X7_delay : (.selects RX7 yX7_delay yX7_delay : Cond) ∈ AL := al_mem 459 (by decide +kernel)
theorem qC_X7_delay : (.code yX7_delay cX7_delay 3 (some .int) : Cond) ∈ AL := al_mem 460 (by decide +kernel)
theorem qM_X7_64 : (.methodLink RX7 64 yX2_delayShip : Cond) ∈ AL := al_mem 461 (by decide +kernel)
theorem qI_X2_delayShip : (.instanceMethod yX2_delayShip : Cond) ∈ AL := al_mem 462 (by decide +kernel)
theorem qS_X2_delayShip : (.selects RX2 yX2_delayShip yX2_delayShip : Cond) ∈ AL := al_mem 463 (by decide +kernel)
theorem qC_X2_delayShip : (.code yX2_delayShip cX2_delayShip 6 (some .int) : Cond) ∈ AL := al_mem 464 (by decide +kernel)
theorem qM_X2_138 : (.methodLink RX2 138 yX2_fixturesInTime : Cond) ∈ AL := al_mem 465 (by decide +kernel)
theorem qI_X2_fixturesInTime : (.instanceMethod yX2_fixturesInTime : Cond) ∈ AL := al_mem 467 (by decide +kernel)
theorem qC_X2_fixturesInTime : (.code yX2_fixturesInTime cX2_fixturesInTime 4 (some .int) : Cond) ∈ AL := al_mem 468 (by decide +kernel)
theorem qM_X2_141 : (.methodLink RX2 141 yX2_dropFixtures : Cond) ∈ AL := al_mem 469 (by decide +kernel)
theorem qI_X2_dropFixtures : (.instanceMethod yX2_dropFixtures : Cond) ∈ AL := al_mem 471 (by decide +kernel)
theorem qC_X2_dropFixtures : (.code yX2_dropFixtures cX2_dropFixtures 5 none : Cond) ∈ AL := al_mem 472 (by decide +kernel)
theorem qM_L_37 : (.methodLink RL 37 yX7_callOff : Cond) ∈ AL := al_mem 473 (by decide +kernel)
theorem qI_X7_callOff : (.instanceMethod yX7_callOff : Cond) ∈ AL := al_mem 474 (by decide +kernel)
theorem qS_X7_callOff : (.selects RX7 yX7_callOff yX7_callOff : Cond) ∈ AL := al_mem 475 (by decide +kernel)
theorem qC_X7_callOff : (.code yX7_callOff cX7_callOff 2 (some .int) : Cond) ∈ AL := al_mem 476 (by decide +kernel)
theorem qM_X7_67 : (.methodLink RX7 67 yX2_callOffLast : Cond) ∈ AL := al_mem 477 (by decide +kernel)
theorem qI_X2_callOffLast : (.instanceMethod yX2_callOffLast : Cond) ∈ AL := al_mem 478 (by decide +kernel)
theorem qS_X2_callOffLast : (.selects RX2 yX2_callOffLast yX2_callOffLast : Cond) ∈ AL := al_mem 479 (by decide +kernel)
theorem qC_X2_callOffLast : (.code yX2_callOffLast cX2_callOffLast 5 (some .int) : Cond) ∈ AL := al_mem 480 (by decide +kernel)
theorem qM_L_42 : (.methodLink RL 42 yX7_settle : Cond) ∈ AL := al_mem 481 (by decide +kernel)
theorem qI_X7_settle : (.instanceMethod yX7_settle : Cond) ∈ AL := al_mem 482 (by decide +kernel)
theorem qS_X7_settle : (.selects RX7 yX7_settle yX7_settle : Cond) ∈ AL := al_mem 483 (by decide +kernel)
theorem qC_X7_settle : (.code yX7_settle cX7_settle 2 (some .int) : Cond) ∈ AL := al_mem 484 (by decide +kernel)
theorem qM_X7_70 : (.methodLink RX7 70 yX2_settleShip : Cond) ∈ AL := al_mem 485 (by decide +kernel)
theorem qI_X2_settleShip : (.instanceMethod yX2_settleShip : Cond) ∈ AL := al_mem 486 (by decide +kernel)
theorem qS_X2_settleShip : (.selects RX2 yX2_settleShip yX2_settleShip : Cond) ∈ AL := al_mem 487 (by decide +kernel)
theorem qC_X2_settleShip : (.code yX2_settleShip cX2_settleShip 3 (some .int) : Cond) ∈ AL := al_mem 488 (by decide +kernel)
theorem qM_X2_155 : (.methodLink RX2 155 yX2_followAll : Cond) ∈ AL := al_mem 489 (by decide +kernel)
theorem qI_X2_followAll : (.instanceMethod yX2_followAll : Cond) ∈ AL := al_mem 490 (by decide +kernel)
theorem qS_X2_followAll : (.selects RX2 yX2_followAll yX2_followAll : Cond) ∈ AL := al_mem 491 (by decide +kernel)
theorem qC_X2_followAll : (.code yX2_followAll cX2_followAll 2 (some (.object "ShipFixtures$Course")) : Cond) ∈ AL := al_mem 492 (by decide +kernel)
theorem qc_X2_165 : (.constant RX2 165 (1000000) : Cond) ∈ AL := al_mem 493 (by decide +kernel)
theorem qM_L_46 : (.methodLink RL 46 yX7_shipOf : Cond) ∈ AL := al_mem 494 (by decide +kernel)
theorem qI_X7_shipOf : (.instanceMethod yX7_shipOf : Cond) ∈ AL := al_mem 495 (by decide +kernel)
theorem qS_X7_shipOf : (.selects RX7 yX7_shipOf yX7_shipOf : Cond) ∈ AL := al_mem 496 (by decide +kernel)
theorem qC_X7_shipOf : (.code yX7_shipOf cX7_shipOf 4 (some .int) : Cond) ∈ AL := al_mem 497 (by decide +kernel)
theorem qM_X7_73 : (.methodLink RX7 73 yX2_isShip : Cond) ∈ AL := al_mem 498 (by decide +kernel)
theorem qM_X7_94 : (.methodLink RX7 94 yX2_followAll : Cond) ∈ AL := al_mem 499 (by decide +kernel)
theorem qc_X7_118 : (.constant RX7 118 (1000000) : Cond) ∈ AL := al_mem 500 (by decide +kernel)
theorem qM_L_50 : (.methodLink RL 50 yX7_cargoOf : Cond) ∈ AL := al_mem 501 (by decide +kernel)
theorem qI_X7_cargoOf : (.instanceMethod yX7_cargoOf : Cond) ∈ AL := al_mem 502 (by decide +kernel)
theorem qS_X7_cargoOf : (.selects RX7 yX7_cargoOf yX7_cargoOf : Cond) ∈ AL := al_mem 503 (by decide +kernel)
theorem qC_X7_cargoOf : (.code yX7_cargoOf cX7_cargoOf 4 (some .int) : Cond) ∈ AL := al_mem 504 (by decide +kernel)
theorem qM_X7_122 : (.methodLink RX7 122 yX2_isCargo : Cond) ∈ AL := al_mem 505 (by decide +kernel)
theorem qM_L_54 : (.methodLink RL 54 yX7_fixtureOf : Cond) ∈ AL := al_mem 506 (by decide +kernel)
theorem qI_X7_fixtureOf : (.instanceMethod yX7_fixtureOf : Cond) ∈ AL := al_mem 507 (by decide +kernel)
theorem qS_X7_fixtureOf : (.selects RX7 yX7_fixtureOf yX7_fixtureOf : Cond) ∈ AL := al_mem 508 (by decide +kernel)
theorem qC_X7_fixtureOf : (.code yX7_fixtureOf cX7_fixtureOf 6 (some .int) : Cond) ∈ AL := al_mem 509 (by decide +kernel)
theorem qM_X7_160 : (.methodLink RX7 160 yX2_follow : Cond) ∈ AL := al_mem 510 (by decide +kernel)
theorem qM_L_58 : (.methodLink RL 58 yX7_distance : Cond) ∈ AL := al_mem 511 (by decide +kernel)
theorem qI_X7_distance : (.instanceMethod yX7_distance : Cond) ∈ AL := al_mem 512 (by decide +kernel)
theorem qS_X7_distance : (.selects RX7 yX7_distance yX7_distance : Cond) ∈ AL := al_mem 513 (by decide +kernel)
theorem qC_X7_distance : (.code yX7_distance cX7_distance 3 (some .int) : Cond) ∈ AL := al_mem 514 (by decide +kernel)
theorem qM_X7_180 : (.methodLink RX7 180 yX7_isPort : Cond) ∈ AL := al_mem 515 (by decide +kernel)
theorem qM_X7_183 : (.methodLink RX7 183 yX2_between : Cond) ∈ AL := al_mem 516 (by decide +kernel)
theorem qM_L_62 : (.methodLink RL 62 yX7_voyage : Cond) ∈ AL := al_mem 517 (by decide +kernel)
theorem qI_X7_voyage : (.instanceMethod yX7_voyage : Cond) ∈ AL := al_mem 518 (by decide +kernel)
theorem qS_X7_voyage : (.selects RX7 yX7_voyage yX7_voyage : Cond) ∈ AL := al_mem 519 (by decide +kernel)
theorem qC_X7_voyage : (.code yX7_voyage cX7_voyage 6 (some .int) : Cond) ∈ AL := al_mem 520 (by decide +kernel)
theorem qM_X7_186 : (.methodLink RX7 186 yX2_hindrance : Cond) ∈ AL := al_mem 521 (by decide +kernel)
theorem qM_X7_196 : (.methodLink RX7 196 yX1_bitsOfEarningsByTheDay : Cond) ∈ AL := al_mem 522 (by decide +kernel)
theorem qI_X1_bitsOfEarningsByTheDay : (.instanceMethod yX1_bitsOfEarningsByTheDay : Cond) ∈ AL := al_mem 523 (by decide +kernel)
theorem qS_X1_bitsOfEarningsByTheDay : (.selects RX1 yX1_bitsOfEarningsByTheDay yX1_bitsOfEarningsByTheDay : Cond) ∈ AL := al_mem 524 (by decide +kernel)
theorem qC_X1_bitsOfEarningsByTheDay : (.code yX1_bitsOfEarningsByTheDay cX1_bitsOfEarningsByTheDay 1 (some .int) : Cond) ∈ AL := al_mem 525 (by decide +kernel)
theorem qM_X1_33 : (.methodLink RX1 33 yX1_bitsOf : Cond) ∈ AL := al_mem 526 (by decide +kernel)
theorem qT_X1_bitsOf : (.static yX1_bitsOf : Cond) ∈ AL := al_mem 527 (by decide +kernel)
theorem qC_X1_bitsOf : (.code yX1_bitsOf cX1_bitsOf 4 (some .int) : Cond) ∈ AL := al_mem 528 (by decide +kernel)
theorem qc_X1_39 : (.constant RX1 39 (-2147483648) : Cond) ∈ AL := al_mem 529 (by decide +kernel)
theorem qc_X1_40 : (.constantFloat RX1 40 (1258291200) : Cond) ∈ AL := al_mem 530 (by decide +kernel)
theorem qc_X1_41 : (.constant RX1 41 (8388607) : Cond) ∈ AL := al_mem 531 (by decide +kernel)
theorem qM_L_66 : (.methodLink RL 66 yX7_bestCargo : Cond) ∈ AL := al_mem 532 (by decide +kernel)
theorem qI_X7_bestCargo : (.instanceMethod yX7_bestCargo : Cond) ∈ AL := al_mem 533 (by decide +kernel)
theorem qS_X7_bestCargo : (.selects RX7 yX7_bestCargo yX7_bestCargo : Cond) ∈ AL := al_mem 534 (by decide +kernel)
theorem qC_X7_bestCargo : (.code yX7_bestCargo cX7_bestCargo 2 (some .int) : Cond) ∈ AL := al_mem 535 (by decide +kernel)
theorem qM_X7_203 : (.methodLink RX7 203 yX2_choose : Cond) ∈ AL := al_mem 536 (by decide +kernel)
theorem qI_X2_choose : (.instanceMethod yX2_choose : Cond) ∈ AL := al_mem 537 (by decide +kernel)
theorem qS_X2_choose : (.selects RX2 yX2_choose yX2_choose : Cond) ∈ AL := al_mem 538 (by decide +kernel)
theorem qC_X2_choose : (.code yX2_choose cX2_choose 8 (some .boolean) : Cond) ∈ AL := al_mem 539 (by decide +kernel)
theorem qM_L_70 : (.methodLink RL 70 yX7_bestShip : Cond) ∈ AL := al_mem 540 (by decide +kernel)
theorem qI_X7_bestShip : (.instanceMethod yX7_bestShip : Cond) ∈ AL := al_mem 541 (by decide +kernel)
theorem qS_X7_bestShip : (.selects RX7 yX7_bestShip yX7_bestShip : Cond) ∈ AL := al_mem 542 (by decide +kernel)
theorem qC_X7_bestShip : (.code yX7_bestShip cX7_bestShip 2 (some .int) : Cond) ∈ AL := al_mem 543 (by decide +kernel)
theorem qc_X7_210 : (.constant RX7 210 (-1000002) : Cond) ∈ AL := al_mem 544 (by decide +kernel)
theorem qM_L_74 : (.methodLink RL 74 yX7_plan : Cond) ∈ AL := al_mem 545 (by decide +kernel)
theorem qI_X7_plan : (.instanceMethod yX7_plan : Cond) ∈ AL := al_mem 546 (by decide +kernel)
theorem qS_X7_plan : (.selects RX7 yX7_plan yX7_plan : Cond) ∈ AL := al_mem 547 (by decide +kernel)
theorem qC_X7_plan : (.code yX7_plan cX7_plan 6 (some .int) : Cond) ∈ AL := al_mem 548 (by decide +kernel)
theorem qM_X7_217 : (.methodLink RX7 217 yX2_chooseGainful : Cond) ∈ AL := al_mem 549 (by decide +kernel)
theorem qI_X2_chooseGainful : (.instanceMethod yX2_chooseGainful : Cond) ∈ AL := al_mem 550 (by decide +kernel)
theorem qS_X2_chooseGainful : (.selects RX2 yX2_chooseGainful yX2_chooseGainful : Cond) ∈ AL := al_mem 551 (by decide +kernel)
theorem qC_X2_chooseGainful : (.code yX2_chooseGainful cX2_chooseGainful 1 (some .boolean) : Cond) ∈ AL := al_mem 552 (by decide +kernel)
theorem qM_X2_213 : (.methodLink RX2 213 yX2_choose : Cond) ∈ AL := al_mem 553 (by decide +kernel)
theorem qM_X7_224 : (.methodLink RX7 224 yX2_pairOf : Cond) ∈ AL := al_mem 554 (by decide +kernel)
theorem qI_X2_pairOf : (.instanceMethod yX2_pairOf : Cond) ∈ AL := al_mem 555 (by decide +kernel)
theorem qS_X2_pairOf : (.selects RX2 yX2_pairOf yX2_pairOf : Cond) ∈ AL := al_mem 556 (by decide +kernel)
theorem qC_X2_pairOf : (.code yX2_pairOf cX2_pairOf 2 (some .long) : Cond) ∈ AL := al_mem 557 (by decide +kernel)
theorem qM_X7_228 : (.methodLink RX7 228 yX2_openCargoes : Cond) ∈ AL := al_mem 558 (by decide +kernel)
theorem qI_X2_openCargoes : (.instanceMethod yX2_openCargoes : Cond) ∈ AL := al_mem 559 (by decide +kernel)
theorem qS_X2_openCargoes : (.selects RX2 yX2_openCargoes yX2_openCargoes : Cond) ∈ AL := al_mem 560 (by decide +kernel)
theorem qC_X2_openCargoes : (.code yX2_openCargoes cX2_openCargoes 3 (some .int) : Cond) ∈ AL := al_mem 561 (by decide +kernel)
theorem qM_X7_231 : (.methodLink RX7 231 yJ13_bitCount_95d88 : Cond) ∈ AL := al_mem 562 (by decide +kernel)
theorem qT_J13_bitCount_95d88 : (.static yJ13_bitCount_95d88 : Cond) ∈ AL := al_mem 563 (by decide +kernel)
theorem qC_J13_bitCount_95d88 : (.code yJ13_bitCount_95d88 cJ13_bitCount_95d88 2 (some .int) : Cond) ∈ AL := al_mem 564 (by decide +kernel)
theorem qc_J13_314 : (.constantLong RJ13 314 (6148914691236517205) : Cond) ∈ AL := al_mem 565 (by decide +kernel)
theorem qc_J13_316 : (.constantLong RJ13 316 (3689348814741910323) : Cond) ∈ AL := al_mem 566 (by decide +kernel)
theorem qc_J13_318 : (.constantLong RJ13 318 (1085102592571150095) : Cond) ∈ AL := al_mem 567 (by decide +kernel)
theorem qM_L_78 : (.methodLink RL 78 yX7_slack : Cond) ∈ AL := al_mem 568 (by decide +kernel)
theorem qI_X7_slack : (.instanceMethod yX7_slack : Cond) ∈ AL := al_mem 569 (by decide +kernel)
theorem qS_X7_slack : (.selects RX7 yX7_slack yX7_slack : Cond) ∈ AL := al_mem 570 (by decide +kernel)
theorem qC_X7_slack : (.code yX7_slack cX7_slack 2 (some .int) : Cond) ∈ AL := al_mem 571 (by decide +kernel)
theorem qM_X7_237 : (.methodLink RX7 237 yX2_slackOf : Cond) ∈ AL := al_mem 572 (by decide +kernel)
theorem qI_X2_slackOf : (.instanceMethod yX2_slackOf : Cond) ∈ AL := al_mem 573 (by decide +kernel)
theorem qS_X2_slackOf : (.selects RX2 yX2_slackOf yX2_slackOf : Cond) ∈ AL := al_mem 574 (by decide +kernel)
theorem qC_X2_slackOf : (.code yX2_slackOf cX2_slackOf 7 (some .int) : Cond) ∈ AL := al_mem 575 (by decide +kernel)
theorem qc_X2_200 : (.constant RX2 200 (-1000004) : Cond) ∈ AL := al_mem 576 (by decide +kernel)
theorem qM_X2_201 : (.methodLink RX2 201 yJ9_min_7cf53 : Cond) ∈ AL := al_mem 577 (by decide +kernel)
theorem qT_J9_min_7cf53 : (.static yJ9_min_7cf53 : Cond) ∈ AL := al_mem 578 (by decide +kernel)
theorem qC_J9_min_7cf53 : (.code yJ9_min_7cf53 cJ9_min_7cf53 2 (some .int) : Cond) ∈ AL := al_mem 579 (by decide +kernel)
theorem qM_L_82 : (.methodLink RL 82 yX7_count : Cond) ∈ AL := al_mem 580 (by decide +kernel)
theorem qI_X7_count : (.instanceMethod yX7_count : Cond) ∈ AL := al_mem 581 (by decide +kernel)
theorem qS_X7_count : (.selects RX7 yX7_count yX7_count : Cond) ∈ AL := al_mem 582 (by decide +kernel)
theorem qC_X7_count : (.code yX7_count cX7_count 2 (some .int) : Cond) ∈ AL := al_mem 583 (by decide +kernel)
theorem qM_X7_240 : (.methodLink RX7 240 yX2_cargoesThatAre : Cond) ∈ AL := al_mem 584 (by decide +kernel)
theorem qM_X7_243 : (.methodLink RX7 243 yX2_accountsTogether : Cond) ∈ AL := al_mem 585 (by decide +kernel)
theorem qI_X2_accountsTogether : (.instanceMethod yX2_accountsTogether : Cond) ∈ AL := al_mem 586 (by decide +kernel)
theorem qS_X2_accountsTogether : (.selects RX2 yX2_accountsTogether yX2_accountsTogether : Cond) ∈ AL := al_mem 587 (by decide +kernel)
theorem qC_X2_accountsTogether : (.code yX2_accountsTogether cX2_accountsTogether 3 (some .int) : Cond) ∈ AL := al_mem 588 (by decide +kernel)
theorem qM_L_86 : (.methodLink RL 86 yX7_undo : Cond) ∈ AL := al_mem 589 (by decide +kernel)
theorem qI_X7_undo : (.instanceMethod yX7_undo : Cond) ∈ AL := al_mem 590 (by decide +kernel)
theorem qS_X7_undo : (.selects RX7 yX7_undo yX7_undo : Cond) ∈ AL := al_mem 591 (by decide +kernel)
theorem qC_X7_undo : (.code yX7_undo cX7_undo 1 (some .int) : Cond) ∈ AL := al_mem 592 (by decide +kernel)
theorem qM_X7_256 : (.methodLink RX7 256 yX4_restore : Cond) ∈ AL := al_mem 593 (by decide +kernel)
theorem qI_X4_restore : (.instanceMethod yX4_restore : Cond) ∈ AL := al_mem 594 (by decide +kernel)
theorem qS_X4_restore : (.selects RX4 yX4_restore yX4_restore : Cond) ∈ AL := al_mem 595 (by decide +kernel)
theorem qC_X4_restore : (.code yX4_restore cX4_restore 2 (some .boolean) : Cond) ∈ AL := al_mem 596 (by decide +kernel)
theorem qM_L_91 : (.methodLink RL 91 yX7_type : Cond) ∈ AL := al_mem 597 (by decide +kernel)
theorem qI_X7_type : (.instanceMethod yX7_type : Cond) ∈ AL := al_mem 598 (by decide +kernel)
theorem qS_X7_type : (.selects RX7 yX7_type yX7_type : Cond) ∈ AL := al_mem 599 (by decide +kernel)
theorem qC_X7_type : (.code yX7_type cX7_type 2 (some .int) : Cond) ∈ AL := al_mem 600 (by decide +kernel)
theorem qM_X7_260 : (.methodLink RX7 260 yX5_append : Cond) ∈ AL := al_mem 601 (by decide +kernel)
theorem qI_X5_append : (.instanceMethod yX5_append : Cond) ∈ AL := al_mem 602 (by decide +kernel)
theorem qS_X5_append : (.selects RX5 yX5_append yX5_append : Cond) ∈ AL := al_mem 603 (by decide +kernel)
theorem qC_X5_append : (.code yX5_append cX5_append 2 (some .boolean) : Cond) ∈ AL := al_mem 604 (by decide +kernel)
theorem qc_X7_264 : (.constant RX7 264 (-1000003) : Cond) ∈ AL := al_mem 605 (by decide +kernel)
theorem qM_L_95 : (.methodLink RL 95 yX7_clearText : Cond) ∈ AL := al_mem 606 (by decide +kernel)
theorem qI_X7_clearText : (.instanceMethod yX7_clearText : Cond) ∈ AL := al_mem 607 (by decide +kernel)
theorem qS_X7_clearText : (.selects RX7 yX7_clearText yX7_clearText : Cond) ∈ AL := al_mem 608 (by decide +kernel)
theorem qC_X7_clearText : (.code yX7_clearText cX7_clearText 2 (some .int) : Cond) ∈ AL := al_mem 609 (by decide +kernel)
theorem qM_L_99 : (.methodLink RL 99 yX7_fault : Cond) ∈ AL := al_mem 610 (by decide +kernel)
theorem qI_X7_fault : (.instanceMethod yX7_fault : Cond) ∈ AL := al_mem 611 (by decide +kernel)
theorem qS_X7_fault : (.selects RX7 yX7_fault yX7_fault : Cond) ∈ AL := al_mem 612 (by decide +kernel)
theorem qC_X7_fault : (.code yX7_fault cX7_fault 2 (some .int) : Cond) ∈ AL := al_mem 613 (by decide +kernel)
theorem qM_X7_265 : (.methodLink RX7 265 yX7_tryOrders : Cond) ∈ AL := al_mem 614 (by decide +kernel)
theorem qI_X7_tryOrders : (.instanceMethod yX7_tryOrders : Cond) ∈ AL := al_mem 616 (by decide +kernel)
theorem qC_X7_tryOrders : (.code yX7_tryOrders cX7_tryOrders 3 (some .boolean) : Cond) ∈ AL := al_mem 617 (by decide +kernel)
theorem qM_X7_290 : (.methodLink RX7 290 yX5_read : Cond) ∈ AL := al_mem 618 (by decide +kernel)
theorem qI_X5_read : (.instanceMethod yX5_read : Cond) ∈ AL := al_mem 619 (by decide +kernel)
theorem qS_X5_read : (.selects RX5 yX5_read yX5_read : Cond) ∈ AL := al_mem 620 (by decide +kernel)
theorem qC_X5_read : (.code yX5_read cX5_read 5 (some .boolean) : Cond) ∈ AL := al_mem 621 (by decide +kernel)
theorem qM_X5_26 : (.methodLink RX5 26 yX5_at : Cond) ∈ AL := al_mem 622 (by decide +kernel)
theorem qI_X5_at : (.instanceMethod yX5_at : Cond) ∈ AL := al_mem 624 (by decide +kernel)
theorem qC_X5_at : (.code yX5_at cX5_at 2 (some .char) : Cond) ∈ AL := al_mem 625 (by decide +kernel)
theorem qM_X5_34 : (.methodLink RX5 34 yX5_numbersOf : Cond) ∈ AL := al_mem 627 (by decide +kernel)
theorem qT_X5_numbersOf : (.static yX5_numbersOf : Cond) ∈ AL := al_mem 628 (by decide +kernel)
theorem qC_X5_numbersOf : (.code yX5_numbersOf cX5_numbersOf 1 (some .int) : Cond) ∈ AL := al_mem 629 (by decide +kernel)
theorem qM_X5_38 : (.methodLink RX5 38 yX5_readNumber : Cond) ∈ AL := al_mem 630 (by decide +kernel)
theorem qI_X5_readNumber : (.instanceMethod yX5_readNumber : Cond) ∈ AL := al_mem 632 (by decide +kernel)
theorem qC_X5_readNumber : (.code yX5_readNumber cX5_readNumber 4 (some .boolean) : Cond) ∈ AL := al_mem 633 (by decide +kernel)
theorem qM_X7_296 : (.methodLink RX7 296 yX3_tell : Cond) ∈ AL := al_mem 634 (by decide +kernel)
theorem qI_X3_tell : (.instanceMethod yX3_tell : Cond) ∈ AL := al_mem 635 (by decide +kernel)
theorem qS_X3_tell : (.selects RX3 yX3_tell yX3_tell : Cond) ∈ AL := al_mem 636 (by decide +kernel)
theorem qC_X3_tell : (.code yX3_tell cX3_tell 4 none : Cond) ∈ AL := al_mem 637 (by decide +kernel)
theorem qM_X7_307 : (.methodLink RX7 307 yX7_obey : Cond) ∈ AL := al_mem 638 (by decide +kernel)
theorem qI_X7_obey : (.instanceMethod yX7_obey : Cond) ∈ AL := al_mem 640 (by decide +kernel)
theorem qC_X7_obey : (.code yX7_obey cX7_obey 3 (some .int) : Cond) ∈ AL := al_mem 641 (by decide +kernel)
theorem qM_L_103 : (.methodLink RL 103 yX7_play : Cond) ∈ AL := al_mem 642 (by decide +kernel)
theorem qI_X7_play : (.instanceMethod yX7_play : Cond) ∈ AL := al_mem 643 (by decide +kernel)
theorem qS_X7_play : (.selects RX7 yX7_play yX7_play : Cond) ∈ AL := al_mem 644 (by decide +kernel)
theorem qC_X7_play : (.code yX7_play cX7_play 1 (some .int) : Cond) ∈ AL := al_mem 645 (by decide +kernel)
theorem qK_L_10 : (.classLink RL 10 RX8 : Cond) ∈ AL := al_mem 646 (by decide +kernel)
theorem qn_X8 : (.instantiable RX8 16 : Cond) ∈ AL := al_mem 647 (by decide +kernel)
theorem qM_L_12 : (.methodLink RL 12 yX8_init : Cond) ∈ AL := al_mem 648 (by decide +kernel)
theorem qI_X8_init : (.instanceMethod yX8_init : Cond) ∈ AL := al_mem 649 (by decide +kernel)
theorem qC_X8_init : (.code yX8_init cX8_init 2 none : Cond) ∈ AL := al_mem 650 (by decide +kernel)
theorem qM_X8_1 : (.methodLink RX8 1 objectInit : Cond) ∈ AL := al_mem 651 (by decide +kernel)
theorem qF_X8_7 : (.fieldLink RX8 7 "ShipFixturesModel" "s" "[I" : Cond) ∈ AL := al_mem 652 (by decide +kernel)
theorem qF_X8_25 : (.fieldLink RX8 25 "ShipFixturesModel" "states" "I" : Cond) ∈ AL := al_mem 653 (by decide +kernel)
theorem qF_X8_13 : (.fieldLink RX8 13 "ShipFixturesModel" "text" "[C" : Cond) ∈ AL := al_mem 654 (by decide +kernel)
theorem qF_X8_141 : (.fieldLink RX8 141 "ShipFixturesModel" "typed" "I" : Cond) ∈ AL := al_mem 655 (by decide +kernel)
theorem qF_X8_159 : (.fieldLink RX8 159 "ShipFixturesModel" "reason" "I" : Cond) ∈ AL := al_mem 656 (by decide +kernel)
theorem qF_X8_162 : (.fieldLink RX8 162 "ShipFixturesModel" "cause" "I" : Cond) ∈ AL := al_mem 657 (by decide +kernel)
theorem qF_X8_144 : (.fieldLink RX8 144 "ShipFixturesModel" "at" "I" : Cond) ∈ AL := al_mem 658 (by decide +kernel)
theorem qF_X8_17 : (.fieldLink RX8 17 "ShipFixturesModel" "told" "[I" : Cond) ∈ AL := al_mem 659 (by decide +kernel)
theorem qF_X8_51 : (.fieldLink RX8 51 "ShipFixturesModel" "come" "I" : Cond) ∈ AL := al_mem 660 (by decide +kernel)
theorem qF_X8_54 : (.fieldLink RX8 54 "ShipFixturesModel" "begun" "I" : Cond) ∈ AL := al_mem 661 (by decide +kernel)
theorem qF_X8_57 : (.fieldLink RX8 57 "ShipFixturesModel" "free" "I" : Cond) ∈ AL := al_mem 662 (by decide +kernel)
theorem qF_X8_60 : (.fieldLink RX8 60 "ShipFixturesModel" "earned" "I" : Cond) ∈ AL := al_mem 663 (by decide +kernel)
theorem qF_X8_63 : (.fieldLink RX8 63 "ShipFixturesModel" "port" "I" : Cond) ∈ AL := al_mem 664 (by decide +kernel)
theorem qF_X8_66 : (.fieldLink RX8 66 "ShipFixturesModel" "day" "I" : Cond) ∈ AL := al_mem 665 (by decide +kernel)
theorem qF_X8_69 : (.fieldLink RX8 69 "ShipFixturesModel" "sum" "I" : Cond) ∈ AL := al_mem 666 (by decide +kernel)
theorem qF_X8_72 : (.fieldLink RX8 72 "ShipFixturesModel" "inTime" "I" : Cond) ∈ AL := al_mem 667 (by decide +kernel)
theorem qM_L_17 : (.methodLink RL 17 yX8_port : Cond) ∈ AL := al_mem 701 (by decide +kernel)
theorem qI_X8_port : (.instanceMethod yX8_port : Cond) ∈ AL := al_mem 702 (by decide +kernel)
theorem qS_X8_port : (.selects RX8 yX8_port yX8_port : Cond) ∈ AL := al_mem 703 (by decide +kernel)
theorem qC_X8_port : (.code yX8_port cX8_port 5 (some .int) : Cond) ∈ AL := al_mem 704 (by decide +kernel)
theorem qM_X8_29 : (.methodLink RX8 29 yX8_in : Cond) ∈ AL := al_mem 705 (by decide +kernel)
theorem qT_X8_in : (.static yX8_in : Cond) ∈ AL := al_mem 706 (by decide +kernel)
theorem qC_X8_in : (.code yX8_in cX8_in 3 (some .boolean) : Cond) ∈ AL := al_mem 707 (by decide +kernel)
theorem qc_X8_24 : (.constant RX8 24 (-1000001) : Cond) ∈ AL := al_mem 708 (by decide +kernel)
theorem qM_X8_105 : (.methodLink RX8 105 yX8_cargoes : Cond) ∈ AL := al_mem 709 (by decide +kernel)
theorem qI_X8_cargoes : (.instanceMethod yX8_cargoes : Cond) ∈ AL := al_mem 711 (by decide +kernel)
theorem qC_X8_cargoes : (.code yX8_cargoes cX8_cargoes 4 (some .int) : Cond) ∈ AL := al_mem 712 (by decide +kernel)
theorem qM_X8_44 : (.methodLink RX8 44 yX8_cargoAt : Cond) ∈ AL := al_mem 713 (by decide +kernel)
theorem qT_X8_cargoAt : (.static yX8_cargoAt : Cond) ∈ AL := al_mem 714 (by decide +kernel)
theorem qC_X8_cargoAt : (.code yX8_cargoAt cX8_cargoAt 3 (some .int) : Cond) ∈ AL := al_mem 715 (by decide +kernel)
theorem qc_X8_101 : (.constant RX8 101 (-1000002) : Cond) ∈ AL := al_mem 716 (by decide +kernel)
theorem qM_X8_109 : (.methodLink RX8 109 yX8_keeps : Cond) ∈ AL := al_mem 717 (by decide +kernel)
theorem qI_X8_keeps : (.instanceMethod yX8_keeps : Cond) ∈ AL := al_mem 719 (by decide +kernel)
theorem qC_X8_keeps : (.code yX8_keeps cX8_keeps 1 none : Cond) ∈ AL := al_mem 720 (by decide +kernel)
theorem qM_X8_20 : (.methodLink RX8 20 yX8_copies : Cond) ∈ AL := al_mem 721 (by decide +kernel)
theorem qI_X8_copies : (.instanceMethod yX8_copies : Cond) ∈ AL := al_mem 723 (by decide +kernel)
theorem qC_X8_copies : (.code yX8_copies cX8_copies 4 none : Cond) ∈ AL := al_mem 724 (by decide +kernel)
theorem qM_X8_112 : (.methodLink RX8 112 yX8_acted : Cond) ∈ AL := al_mem 725 (by decide +kernel)
theorem qI_X8_acted : (.instanceMethod yX8_acted : Cond) ∈ AL := al_mem 727 (by decide +kernel)
theorem qC_X8_acted : (.code yX8_acted cX8_acted 3 (some .int) : Cond) ∈ AL := al_mem 728 (by decide +kernel)
theorem qM_L_22 : (.methodLink RL 22 yX8_ship : Cond) ∈ AL := al_mem 729 (by decide +kernel)
theorem qI_X8_ship : (.instanceMethod yX8_ship : Cond) ∈ AL := al_mem 730 (by decide +kernel)
theorem qS_X8_ship : (.selects RX8 yX8_ship yX8_ship : Cond) ∈ AL := al_mem 731 (by decide +kernel)
theorem qC_X8_ship : (.code yX8_ship cX8_ship 6 (some .int) : Cond) ∈ AL := al_mem 732 (by decide +kernel)
theorem qM_X8_115 : (.methodLink RX8 115 yX8_doShip : Cond) ∈ AL := al_mem 733 (by decide +kernel)
theorem qI_X8_doShip : (.instanceMethod yX8_doShip : Cond) ∈ AL := al_mem 735 (by decide +kernel)
theorem qC_X8_doShip : (.code yX8_doShip cX8_doShip 7 (some .int) : Cond) ∈ AL := al_mem 736 (by decide +kernel)
theorem qc_X8_90 : (.constant RX8 90 (-1000003) : Cond) ∈ AL := al_mem 737 (by decide +kernel)
theorem qM_X8_37 : (.methodLink RX8 37 yX8_shipAt : Cond) ∈ AL := al_mem 738 (by decide +kernel)
theorem qT_X8_shipAt : (.static yX8_shipAt : Cond) ∈ AL := al_mem 739 (by decide +kernel)
theorem qC_X8_shipAt : (.code yX8_shipAt cX8_shipAt 3 (some .int) : Cond) ∈ AL := al_mem 740 (by decide +kernel)
theorem qM_L_27 : (.methodLink RL 27 yX8_cargo : Cond) ∈ AL := al_mem 741 (by decide +kernel)
theorem qI_X8_cargo : (.instanceMethod yX8_cargo : Cond) ∈ AL := al_mem 742 (by decide +kernel)
theorem qS_X8_cargo : (.selects RX8 yX8_cargo yX8_cargo : Cond) ∈ AL := al_mem 743 (by decide +kernel)
theorem qC_X8_cargo : (.code yX8_cargo cX8_cargo 7 (some .int) : Cond) ∈ AL := al_mem 744 (by decide +kernel)
theorem qM_X8_119 : (.methodLink RX8 119 yX8_doCargo : Cond) ∈ AL := al_mem 745 (by decide +kernel)
theorem qI_X8_doCargo : (.instanceMethod yX8_doCargo : Cond) ∈ AL := al_mem 747 (by decide +kernel)
theorem qC_X8_doCargo : (.code yX8_doCargo cX8_doCargo 8 (some .int) : Cond) ∈ AL := al_mem 748 (by decide +kernel)
theorem qM_L_32 : (.methodLink RL 32 yX8_fix : Cond) ∈ AL := al_mem 749 (by decide +kernel)
theorem qI_X8_fix : (.instanceMethod yX8_fix : Cond) ∈ AL := al_mem 750 (by decide +kernel)
theorem qS_X8_fix : (.selects RX8 yX8_fix yX8_fix : Cond) ∈ AL := al_mem 751 (by decide +kernel)
theorem qC_X8_fix : (.code yX8_fix cX8_fix 3 (some .int) : Cond) ∈ AL := al_mem 752 (by decide +kernel)
theorem qM_X8_123 : (.methodLink RX8 123 yX8_doFix : Cond) ∈ AL := al_mem 753 (by decide +kernel)
theorem qI_X8_doFix : (.instanceMethod yX8_doFix : Cond) ∈ AL := al_mem 755 (by decide +kernel)
theorem qC_X8_doFix : (.code yX8_doFix cX8_doFix 3 (some .int) : Cond) ∈ AL := al_mem 756 (by decide +kernel)
theorem qM_X8_91 : (.methodLink RX8 91 yX8_isShip : Cond) ∈ AL := al_mem 757 (by decide +kernel)
theorem qI_X8_isShip : (.instanceMethod yX8_isShip : Cond) ∈ AL := al_mem 759 (by decide +kernel)
theorem qC_X8_isShip : (.code yX8_isShip cX8_isShip 2 (some .boolean) : Cond) ∈ AL := al_mem 760 (by decide +kernel)
theorem qM_X8_95 : (.methodLink RX8 95 yX8_isCargo : Cond) ∈ AL := al_mem 761 (by decide +kernel)
theorem qI_X8_isCargo : (.instanceMethod yX8_isCargo : Cond) ∈ AL := al_mem 763 (by decide +kernel)
theorem qC_X8_isCargo : (.code yX8_isCargo cX8_isCargo 2 (some .boolean) : Cond) ∈ AL := al_mem 764 (by decide +kernel)
theorem qM_X8_98 : (.methodLink RX8 98 yX8_could : Cond) ∈ AL := al_mem 765 (by decide +kernel)
theorem qI_X8_could : (.instanceMethod yX8_could : Cond) ∈ AL := al_mem 767 (by decide +kernel)
theorem qC_X8_could : (.code yX8_could cX8_could 4 (some .int) : Cond) ∈ AL := al_mem 768 (by decide +kernel)
theorem qM_X8_87 : (.methodLink RX8 87 yX8_goesAll : Cond) ∈ AL := al_mem 769 (by decide +kernel)
theorem qI_X8_goesAll : (.instanceMethod yX8_goesAll : Cond) ∈ AL := al_mem 771 (by decide +kernel)
theorem qC_X8_goesAll : (.code yX8_goesAll cX8_goesAll 3 none : Cond) ∈ AL := al_mem 772 (by decide +kernel)
theorem qM_X8_83 : (.methodLink RX8 83 yX8_goes : Cond) ∈ AL := al_mem 773 (by decide +kernel)
theorem qI_X8_goes : (.instanceMethod yX8_goes : Cond) ∈ AL := al_mem 775 (by decide +kernel)
theorem qC_X8_goes : (.code yX8_goes cX8_goes 7 none : Cond) ∈ AL := al_mem 776 (by decide +kernel)
theorem qM_X8_75 : (.methodLink RX8 75 yX8_looks : Cond) ∈ AL := al_mem 777 (by decide +kernel)
theorem qI_X8_looks : (.instanceMethod yX8_looks : Cond) ∈ AL := al_mem 779 (by decide +kernel)
theorem qC_X8_looks : (.code yX8_looks cX8_looks 8 none : Cond) ∈ AL := al_mem 780 (by decide +kernel)
theorem qM_X8_47 : (.methodLink RX8 47 yX8_sails : Cond) ∈ AL := al_mem 781 (by decide +kernel)
theorem qI_X8_sails : (.instanceMethod yX8_sails : Cond) ∈ AL := al_mem 783 (by decide +kernel)
theorem qC_X8_sails : (.code yX8_sails cX8_sails 6 (some .int) : Cond) ∈ AL := al_mem 784 (by decide +kernel)
theorem qM_X8_41 : (.methodLink RX8 41 yX8_far : Cond) ∈ AL := al_mem 785 (by decide +kernel)
theorem qI_X8_far : (.instanceMethod yX8_far : Cond) ∈ AL := al_mem 787 (by decide +kernel)
theorem qC_X8_far : (.code yX8_far cX8_far 3 (some .int) : Cond) ∈ AL := al_mem 788 (by decide +kernel)
theorem qM_X8_33 : (.methodLink RX8 33 yX8_apart : Cond) ∈ AL := al_mem 789 (by decide +kernel)
theorem qT_X8_apart : (.static yX8_apart : Cond) ∈ AL := al_mem 790 (by decide +kernel)
theorem qC_X8_apart : (.code yX8_apart cX8_apart 2 (some .int) : Cond) ∈ AL := al_mem 791 (by decide +kernel)
theorem qM_X8_79 : (.methodLink RX8 79 yX8_isLate : Cond) ∈ AL := al_mem 792 (by decide +kernel)
theorem qI_X8_isLate : (.instanceMethod yX8_isLate : Cond) ∈ AL := al_mem 794 (by decide +kernel)
theorem qC_X8_isLate : (.code yX8_isLate cX8_isLate 3 (some .boolean) : Cond) ∈ AL := al_mem 795 (by decide +kernel)
theorem qM_X8_102 : (.methodLink RX8 102 yX8_fixes : Cond) ∈ AL := al_mem 796 (by decide +kernel)
theorem qI_X8_fixes : (.instanceMethod yX8_fixes : Cond) ∈ AL := al_mem 798 (by decide +kernel)
theorem qC_X8_fixes : (.code yX8_fixes cX8_fixes 5 none : Cond) ∈ AL := al_mem 799 (by decide +kernel)
theorem qM_L_36 : (.methodLink RL 36 yX8_delay : Cond) ∈ AL := al_mem 800 (by decide +kernel)
theorem qI_X8_delay : (.instanceMethod yX8_delay : Cond) ∈ AL := al_mem 801 (by decide +kernel)
theorem qS_X8_delay : (.selects RX8 yX8_delay yX8_delay : Cond) ∈ AL := al_mem 802 (by decide +kernel)
theorem qC_X8_delay : (.code yX8_delay cX8_delay 3 (some .int) : Cond) ∈ AL := al_mem 803 (by decide +kernel)
theorem qM_X8_126 : (.methodLink RX8 126 yX8_doDelay : Cond) ∈ AL := al_mem 804 (by decide +kernel)
theorem qI_X8_doDelay : (.instanceMethod yX8_doDelay : Cond) ∈ AL := al_mem 806 (by decide +kernel)
theorem qC_X8_doDelay : (.code yX8_doDelay cX8_doDelay 5 (some .int) : Cond) ∈ AL := al_mem 807 (by decide +kernel)
theorem qM_L_41 : (.methodLink RL 41 yX8_callOff : Cond) ∈ AL := al_mem 808 (by decide +kernel)
theorem qI_X8_callOff : (.instanceMethod yX8_callOff : Cond) ∈ AL := al_mem 809 (by decide +kernel)
theorem qS_X8_callOff : (.selects RX8 yX8_callOff yX8_callOff : Cond) ∈ AL := al_mem 810 (by decide +kernel)
theorem qC_X8_callOff : (.code yX8_callOff cX8_callOff 5 (some .int) : Cond) ∈ AL := al_mem 811 (by decide +kernel)
theorem qM_L_45 : (.methodLink RL 45 yX8_settle : Cond) ∈ AL := al_mem 812 (by decide +kernel)
theorem qI_X8_settle : (.instanceMethod yX8_settle : Cond) ∈ AL := al_mem 813 (by decide +kernel)
theorem qS_X8_settle : (.selects RX8 yX8_settle yX8_settle : Cond) ∈ AL := al_mem 814 (by decide +kernel)
theorem qC_X8_settle : (.code yX8_settle cX8_settle 4 (some .int) : Cond) ∈ AL := al_mem 815 (by decide +kernel)
theorem qc_X8_129 : (.constant RX8 129 (1000000) : Cond) ∈ AL := al_mem 816 (by decide +kernel)
theorem qM_L_49 : (.methodLink RL 49 yX8_shipOf : Cond) ∈ AL := al_mem 817 (by decide +kernel)
theorem qI_X8_shipOf : (.instanceMethod yX8_shipOf : Cond) ∈ AL := al_mem 818 (by decide +kernel)
theorem qS_X8_shipOf : (.selects RX8 yX8_shipOf yX8_shipOf : Cond) ∈ AL := al_mem 819 (by decide +kernel)
theorem qC_X8_shipOf : (.code yX8_shipOf cX8_shipOf 3 (some .int) : Cond) ∈ AL := al_mem 820 (by decide +kernel)
theorem qM_L_53 : (.methodLink RL 53 yX8_cargoOf : Cond) ∈ AL := al_mem 821 (by decide +kernel)
theorem qI_X8_cargoOf : (.instanceMethod yX8_cargoOf : Cond) ∈ AL := al_mem 822 (by decide +kernel)
theorem qS_X8_cargoOf : (.selects RX8 yX8_cargoOf yX8_cargoOf : Cond) ∈ AL := al_mem 823 (by decide +kernel)
theorem qC_X8_cargoOf : (.code yX8_cargoOf cX8_cargoOf 3 (some .int) : Cond) ∈ AL := al_mem 824 (by decide +kernel)
theorem qc_X8_130 : (.constant RX8 130 (-1000004) : Cond) ∈ AL := al_mem 825 (by decide +kernel)
theorem qM_L_57 : (.methodLink RL 57 yX8_fixtureOf : Cond) ∈ AL := al_mem 826 (by decide +kernel)
theorem qI_X8_fixtureOf : (.instanceMethod yX8_fixtureOf : Cond) ∈ AL := al_mem 827 (by decide +kernel)
theorem qS_X8_fixtureOf : (.selects RX8 yX8_fixtureOf yX8_fixtureOf : Cond) ∈ AL := al_mem 828 (by decide +kernel)
theorem qC_X8_fixtureOf : (.code yX8_fixtureOf cX8_fixtureOf 5 (some .int) : Cond) ∈ AL := al_mem 829 (by decide +kernel)
theorem qM_L_61 : (.methodLink RL 61 yX8_distance : Cond) ∈ AL := al_mem 830 (by decide +kernel)
theorem qI_X8_distance : (.instanceMethod yX8_distance : Cond) ∈ AL := al_mem 831 (by decide +kernel)
theorem qS_X8_distance : (.selects RX8 yX8_distance yX8_distance : Cond) ∈ AL := al_mem 832 (by decide +kernel)
theorem qC_X8_distance : (.code yX8_distance cX8_distance 3 (some .int) : Cond) ∈ AL := al_mem 833 (by decide +kernel)
theorem qM_L_65 : (.methodLink RL 65 yX8_voyage : Cond) ∈ AL := al_mem 834 (by decide +kernel)
theorem qI_X8_voyage : (.instanceMethod yX8_voyage : Cond) ∈ AL := al_mem 835 (by decide +kernel)
theorem qS_X8_voyage : (.selects RX8 yX8_voyage yX8_voyage : Cond) ∈ AL := al_mem 836 (by decide +kernel)
theorem qC_X8_voyage : (.code yX8_voyage cX8_voyage 5 (some .int) : Cond) ∈ AL := al_mem 837 (by decide +kernel)
theorem qM_X8_131 : (.methodLink RX8 131 yJxf58ca_floatToIntBits_5c35a : Cond) ∈ AL := al_mem 838 (by decide +kernel)
theorem qT_Jxf58ca_floatToIntBits_5c35a : (.static yJxf58ca_floatToIntBits_5c35a : Cond) ∈ AL := al_mem 839 (by decide +kernel)
theorem qC_Jxf58ca_floatToIntBits_5c35a : (.code yJxf58ca_floatToIntBits_5c35a cJxf58ca_floatToIntBits_5c35a 1 (some .int) : Cond) ∈ AL := al_mem 840 (by decide +kernel)
theorem qM_Jxf58ca_59 : (.methodLink RJxf58ca 59 yJxf58ca_isNaN_12338 : Cond) ∈ AL := al_mem 841 (by decide +kernel)
theorem qT_Jxf58ca_isNaN_12338 : (.static yJxf58ca_isNaN_12338 : Cond) ∈ AL := al_mem 842 (by decide +kernel)
theorem qC_Jxf58ca_isNaN_12338 : (.code yJxf58ca_isNaN_12338 cJxf58ca_isNaN_12338 1 (some .boolean) : Cond) ∈ AL := al_mem 843 (by decide +kernel)
theorem qM_Jxf58ca_74 : (.methodLink RJxf58ca 74 (⟨"java/lang/Float", "floatToRawIntBits", "(F)I"⟩ : MethodName) : Cond) ∈ AL := al_mem 844 (by decide +kernel)
theorem qT_F_raw : (.static (⟨"java/lang/Float", "floatToRawIntBits", "(F)I"⟩ : MethodName) : Cond) ∈ AL := al_mem 845 (by decide +kernel)
theorem qN_F_raw : (.native (⟨"java/lang/Float", "floatToRawIntBits", "(F)I"⟩ : MethodName) : Cond) ∈ AL := al_mem 846 (by decide +kernel)
theorem qc_Jxf58ca_77 : (.constant RJxf58ca 77 (2143289344) : Cond) ∈ AL := al_mem 847 (by decide +kernel)
theorem qM_L_69 : (.methodLink RL 69 yX8_bestCargo : Cond) ∈ AL := al_mem 848 (by decide +kernel)
theorem qI_X8_bestCargo : (.instanceMethod yX8_bestCargo : Cond) ∈ AL := al_mem 849 (by decide +kernel)
theorem qS_X8_bestCargo : (.selects RX8 yX8_bestCargo yX8_bestCargo : Cond) ∈ AL := al_mem 850 (by decide +kernel)
theorem qC_X8_bestCargo : (.code yX8_bestCargo cX8_bestCargo 6 (some .int) : Cond) ∈ AL := al_mem 851 (by decide +kernel)
theorem qM_L_73 : (.methodLink RL 73 yX8_bestShip : Cond) ∈ AL := al_mem 852 (by decide +kernel)
theorem qI_X8_bestShip : (.instanceMethod yX8_bestShip : Cond) ∈ AL := al_mem 853 (by decide +kernel)
theorem qS_X8_bestShip : (.selects RX8 yX8_bestShip yX8_bestShip : Cond) ∈ AL := al_mem 854 (by decide +kernel)
theorem qC_X8_bestShip : (.code yX8_bestShip cX8_bestShip 5 (some .int) : Cond) ∈ AL := al_mem 855 (by decide +kernel)
theorem qM_L_77 : (.methodLink RL 77 yX8_plan : Cond) ∈ AL := al_mem 856 (by decide +kernel)
theorem qI_X8_plan : (.instanceMethod yX8_plan : Cond) ∈ AL := al_mem 857 (by decide +kernel)
theorem qS_X8_plan : (.selects RX8 yX8_plan yX8_plan : Cond) ∈ AL := al_mem 858 (by decide +kernel)
theorem qC_X8_plan : (.code yX8_plan cX8_plan 12 (some .int) : Cond) ∈ AL := al_mem 859 (by decide +kernel)
theorem qM_L_81 : (.methodLink RL 81 yX8_slack : Cond) ∈ AL := al_mem 860 (by decide +kernel)
theorem qI_X8_slack : (.instanceMethod yX8_slack : Cond) ∈ AL := al_mem 861 (by decide +kernel)
theorem qS_X8_slack : (.selects RX8 yX8_slack yX8_slack : Cond) ∈ AL := al_mem 862 (by decide +kernel)
theorem qC_X8_slack : (.code yX8_slack cX8_slack 5 (some .int) : Cond) ∈ AL := al_mem 863 (by decide +kernel)
theorem qM_L_85 : (.methodLink RL 85 yX8_count : Cond) ∈ AL := al_mem 864 (by decide +kernel)
theorem qI_X8_count : (.instanceMethod yX8_count : Cond) ∈ AL := al_mem 865 (by decide +kernel)
theorem qS_X8_count : (.selects RX8 yX8_count yX8_count : Cond) ∈ AL := al_mem 866 (by decide +kernel)
theorem qC_X8_count : (.code yX8_count cX8_count 2 (some .int) : Cond) ∈ AL := al_mem 867 (by decide +kernel)
theorem qM_X8_137 : (.methodLink RX8 137 yX8_accounts : Cond) ∈ AL := al_mem 868 (by decide +kernel)
theorem qI_X8_accounts : (.instanceMethod yX8_accounts : Cond) ∈ AL := al_mem 870 (by decide +kernel)
theorem qC_X8_accounts : (.code yX8_accounts cX8_accounts 3 (some .int) : Cond) ∈ AL := al_mem 871 (by decide +kernel)
theorem qM_L_90 : (.methodLink RL 90 yX8_undo : Cond) ∈ AL := al_mem 872 (by decide +kernel)
theorem qI_X8_undo : (.instanceMethod yX8_undo : Cond) ∈ AL := al_mem 873 (by decide +kernel)
theorem qS_X8_undo : (.selects RX8 yX8_undo yX8_undo : Cond) ∈ AL := al_mem 874 (by decide +kernel)
theorem qC_X8_undo : (.code yX8_undo cX8_undo 1 (some .int) : Cond) ∈ AL := al_mem 875 (by decide +kernel)
theorem qM_L_94 : (.methodLink RL 94 yX8_type : Cond) ∈ AL := al_mem 876 (by decide +kernel)
theorem qI_X8_type : (.instanceMethod yX8_type : Cond) ∈ AL := al_mem 877 (by decide +kernel)
theorem qS_X8_type : (.selects RX8 yX8_type yX8_type : Cond) ∈ AL := al_mem 878 (by decide +kernel)
theorem qC_X8_type : (.code yX8_type cX8_type 2 (some .int) : Cond) ∈ AL := al_mem 879 (by decide +kernel)
theorem qM_L_98 : (.methodLink RL 98 yX8_clearText : Cond) ∈ AL := al_mem 880 (by decide +kernel)
theorem qI_X8_clearText : (.instanceMethod yX8_clearText : Cond) ∈ AL := al_mem 881 (by decide +kernel)
theorem qS_X8_clearText : (.selects RX8 yX8_clearText yX8_clearText : Cond) ∈ AL := al_mem 882 (by decide +kernel)
theorem qC_X8_clearText : (.code yX8_clearText cX8_clearText 2 (some .int) : Cond) ∈ AL := al_mem 883 (by decide +kernel)
theorem qM_L_102 : (.methodLink RL 102 yX8_fault : Cond) ∈ AL := al_mem 884 (by decide +kernel)
theorem qI_X8_fault : (.instanceMethod yX8_fault : Cond) ∈ AL := al_mem 885 (by decide +kernel)
theorem qS_X8_fault : (.selects RX8 yX8_fault yX8_fault : Cond) ∈ AL := al_mem 886 (by decide +kernel)
theorem qC_X8_fault : (.code yX8_fault cX8_fault 3 (some .int) : Cond) ∈ AL := al_mem 887 (by decide +kernel)
theorem qM_X8_168 : (.methodLink RX8 168 yX8_goesOn : Cond) ∈ AL := al_mem 888 (by decide +kernel)
theorem qI_X8_goesOn : (.instanceMethod yX8_goesOn : Cond) ∈ AL := al_mem 890 (by decide +kernel)
theorem qC_X8_goesOn : (.code yX8_goesOn cX8_goesOn 5 (some .int) : Cond) ∈ AL := al_mem 891 (by decide +kernel)
theorem qM_X8_147 : (.methodLink RX8 147 yX8_sign : Cond) ∈ AL := al_mem 892 (by decide +kernel)
theorem qI_X8_sign : (.instanceMethod yX8_sign : Cond) ∈ AL := al_mem 894 (by decide +kernel)
theorem qC_X8_sign : (.code yX8_sign cX8_sign 1 (some .int) : Cond) ∈ AL := al_mem 895 (by decide +kernel)
theorem qM_X8_156 : (.methodLink RX8 156 yX8_order : Cond) ∈ AL := al_mem 896 (by decide +kernel)
theorem qI_X8_order : (.instanceMethod yX8_order : Cond) ∈ AL := al_mem 898 (by decide +kernel)
theorem qC_X8_order : (.code yX8_order cX8_order 5 (some .boolean) : Cond) ∈ AL := al_mem 899 (by decide +kernel)
theorem qM_X8_150 : (.methodLink RX8 150 yX8_takes : Cond) ∈ AL := al_mem 900 (by decide +kernel)
theorem qI_X8_takes : (.instanceMethod yX8_takes : Cond) ∈ AL := al_mem 902 (by decide +kernel)
theorem qC_X8_takes : (.code yX8_takes cX8_takes 2 (some .boolean) : Cond) ∈ AL := al_mem 903 (by decide +kernel)
theorem qM_X8_153 : (.methodLink RX8 153 yX8_number : Cond) ∈ AL := al_mem 904 (by decide +kernel)
theorem qI_X8_number : (.instanceMethod yX8_number : Cond) ∈ AL := al_mem 906 (by decide +kernel)
theorem qC_X8_number : (.code yX8_number cX8_number 4 (some .boolean) : Cond) ∈ AL := al_mem 907 (by decide +kernel)
theorem qM_X8_165 : (.methodLink RX8 165 yX8_does : Cond) ∈ AL := al_mem 908 (by decide +kernel)
theorem qI_X8_does : (.instanceMethod yX8_does : Cond) ∈ AL := al_mem 910 (by decide +kernel)
theorem qC_X8_does : (.code yX8_does cX8_does 2 (some .int) : Cond) ∈ AL := al_mem 911 (by decide +kernel)
theorem qM_L_106 : (.methodLink RL 106 yX8_play : Cond) ∈ AL := al_mem 912 (by decide +kernel)
theorem qI_X8_play : (.instanceMethod yX8_play : Cond) ∈ AL := al_mem 913 (by decide +kernel)
theorem qS_X8_play : (.selects RX8 yX8_play yX8_play : Cond) ∈ AL := al_mem 914 (by decide +kernel)
theorem qC_X8_play : (.code yX8_play cX8_play 2 (some .int) : Cond) ∈ AL := al_mem 915 (by decide +kernel)
end
section
theorem dX0_init_0 : decode cX0_init 0 = .ok (.aload_n 0, 1) := by decide +kernel
theorem dX0_init_1 : decode cX0_init 1 = .ok (.invokespecial 1, 3) := by decide +kernel
theorem dX0_init_4 : decode cX0_init 4 = .ok (.return_, 1) := by decide +kernel
theorem dX0_copyFrom_0 : decode cX0_copyFrom 0 = .ok (.aload_n 0, 1) := by decide +kernel
theorem dX0_copyFrom_1 : decode cX0_copyFrom 1 = .ok (.aload_n 1, 1) := by decide +kernel
theorem dX0_copyFrom_2 : decode cX0_copyFrom 2 = .ok (.getfield 7, 3) := by decide +kernel
theorem dX0_copyFrom_5 : decode cX0_copyFrom 5 = .ok (.putfield 7, 3) := by decide +kernel
theorem dX0_copyFrom_8 : decode cX0_copyFrom 8 = .ok (.aload_n 0, 1) := by decide +kernel
theorem dX0_copyFrom_9 : decode cX0_copyFrom 9 = .ok (.aload_n 1, 1) := by decide +kernel
theorem dX0_copyFrom_10 : decode cX0_copyFrom 10 = .ok (.getfield 13, 3) := by decide +kernel
theorem dX0_copyFrom_13 : decode cX0_copyFrom 13 = .ok (.putfield 13, 3) := by decide +kernel
theorem dX0_copyFrom_16 : decode cX0_copyFrom 16 = .ok (.aload_n 0, 1) := by decide +kernel
theorem dX0_copyFrom_17 : decode cX0_copyFrom 17 = .ok (.aload_n 1, 1) := by decide +kernel
theorem dX0_copyFrom_18 : decode cX0_copyFrom 18 = .ok (.getfield 16, 3) := by decide +kernel
theorem dX0_copyFrom_21 : decode cX0_copyFrom 21 = .ok (.putfield 16, 3) := by decide +kernel
theorem dX0_copyFrom_24 : decode cX0_copyFrom 24 = .ok (.aload_n 0, 1) := by decide +kernel
theorem dX0_copyFrom_25 : decode cX0_copyFrom 25 = .ok (.aload_n 1, 1) := by decide +kernel
theorem dX0_copyFrom_26 : decode cX0_copyFrom 26 = .ok (.getfield 19, 3) := by decide +kernel
theorem dX0_copyFrom_29 : decode cX0_copyFrom 29 = .ok (.putfield 19, 3) := by decide +kernel
theorem dX0_copyFrom_32 : decode cX0_copyFrom 32 = .ok (.aload_n 0, 1) := by decide +kernel
theorem dX0_copyFrom_33 : decode cX0_copyFrom 33 = .ok (.aload_n 1, 1) := by decide +kernel
theorem dX0_copyFrom_34 : decode cX0_copyFrom 34 = .ok (.getfield 22, 3) := by decide +kernel
theorem dX0_copyFrom_37 : decode cX0_copyFrom 37 = .ok (.putfield 22, 3) := by decide +kernel
theorem dX0_copyFrom_40 : decode cX0_copyFrom 40 = .ok (.aload_n 0, 1) := by decide +kernel
theorem dX0_copyFrom_41 : decode cX0_copyFrom 41 = .ok (.aload_n 1, 1) := by decide +kernel
theorem dX0_copyFrom_42 : decode cX0_copyFrom 42 = .ok (.getfield 25, 3) := by decide +kernel
theorem dX0_copyFrom_45 : decode cX0_copyFrom 45 = .ok (.putfield 25, 3) := by decide +kernel
theorem dX0_copyFrom_48 : decode cX0_copyFrom 48 = .ok (.aload_n 0, 1) := by decide +kernel
theorem dX0_copyFrom_49 : decode cX0_copyFrom 49 = .ok (.aload_n 1, 1) := by decide +kernel
theorem dX0_copyFrom_50 : decode cX0_copyFrom 50 = .ok (.getfield 28, 3) := by decide +kernel
theorem dX0_copyFrom_53 : decode cX0_copyFrom 53 = .ok (.putfield 28, 3) := by decide +kernel
theorem dX0_copyFrom_56 : decode cX0_copyFrom 56 = .ok (.aload_n 0, 1) := by decide +kernel
theorem dX0_copyFrom_57 : decode cX0_copyFrom 57 = .ok (.aload_n 1, 1) := by decide +kernel
theorem dX0_copyFrom_58 : decode cX0_copyFrom 58 = .ok (.getfield 31, 3) := by decide +kernel
theorem dX0_copyFrom_61 : decode cX0_copyFrom 61 = .ok (.putfield 31, 3) := by decide +kernel
theorem dX0_copyFrom_64 : decode cX0_copyFrom 64 = .ok (.return_, 1) := by decide +kernel
theorem dX0_worth_0 : decode cX0_worth 0 = .ok (.aload_n 0, 1) := by decide +kernel
theorem dX0_worth_1 : decode cX0_worth 1 = .ok (.getfield 7, 3) := by decide +kernel
theorem dX0_worth_4 : decode cX0_worth 4 = .ok (.aload_n 0, 1) := by decide +kernel
theorem dX0_worth_5 : decode cX0_worth 5 = .ok (.getfield 25, 3) := by decide +kernel
theorem dX0_worth_8 : decode cX0_worth 8 = .ok (.imul, 1) := by decide +kernel
theorem dX0_worth_9 : decode cX0_worth 9 = .ok (.ireturn, 1) := by decide +kernel
theorem dX1_init_0 : decode cX1_init 0 = .ok (.aload_n 0, 1) := by decide +kernel
theorem dX1_init_1 : decode cX1_init 1 = .ok (.invokespecial 1, 3) := by decide +kernel
theorem dX1_init_4 : decode cX1_init 4 = .ok (.return_, 1) := by decide +kernel
theorem dX1_begin_0 : decode cX1_begin 0 = .ok (.aload_n 0, 1) := by decide +kernel
theorem dX1_begin_1 : decode cX1_begin 1 = .ok (.aload_n 1, 1) := by decide +kernel
theorem dX1_begin_2 : decode cX1_begin 2 = .ok (.getfield 7, 3) := by decide +kernel
theorem dX1_begin_5 : decode cX1_begin 5 = .ok (.putfield 13, 3) := by decide +kernel
theorem dX1_begin_8 : decode cX1_begin 8 = .ok (.aload_n 0, 1) := by decide +kernel
theorem dX1_begin_9 : decode cX1_begin 9 = .ok (.aload_n 1, 1) := by decide +kernel
theorem dX1_begin_10 : decode cX1_begin 10 = .ok (.getfield 18, 3) := by decide +kernel
theorem dX1_begin_13 : decode cX1_begin 13 = .ok (.putfield 21, 3) := by decide +kernel
theorem dX1_begin_16 : decode cX1_begin 16 = .ok (.aload_n 0, 1) := by decide +kernel
theorem dX1_begin_17 : decode cX1_begin 17 = .ok (.iconst 0, 1) := by decide +kernel
theorem dX1_begin_18 : decode cX1_begin 18 = .ok (.putfield 24, 3) := by decide +kernel
theorem dX1_begin_21 : decode cX1_begin 21 = .ok (.return_, 1) := by decide +kernel
theorem dX1_bitsOfEarningsByTheDay_0 : decode cX1_bitsOfEarningsByTheDay 0 = .ok (.aload_n 0, 1) := by decide +kernel
theorem dX1_bitsOfEarningsByTheDay_1 : decode cX1_bitsOfEarningsByTheDay 1 = .ok (.getfield 27, 3) := by decide +kernel
theorem dX1_bitsOfEarningsByTheDay_4 : decode cX1_bitsOfEarningsByTheDay 4 = .ok (.iconst 1, 1) := by decide +kernel
theorem dX1_bitsOfEarningsByTheDay_5 : decode cX1_bitsOfEarningsByTheDay 5 = .ok (.if_icmp .ge 7, 3) := by decide +kernel
theorem dX1_bitsOfEarningsByTheDay_8 : decode cX1_bitsOfEarningsByTheDay 8 = .ok (.iconst 0, 1) := by decide +kernel
theorem dX1_bitsOfEarningsByTheDay_9 : decode cX1_bitsOfEarningsByTheDay 9 = .ok (.goto 17, 3) := by decide +kernel
theorem dX1_bitsOfEarningsByTheDay_12 : decode cX1_bitsOfEarningsByTheDay 12 = .ok (.aload_n 0, 1) := by decide +kernel
theorem dX1_bitsOfEarningsByTheDay_13 : decode cX1_bitsOfEarningsByTheDay 13 = .ok (.getfield 30, 3) := by decide +kernel
theorem dX1_bitsOfEarningsByTheDay_16 : decode cX1_bitsOfEarningsByTheDay 16 = .ok (.i2f, 1) := by decide +kernel
theorem dX1_bitsOfEarningsByTheDay_17 : decode cX1_bitsOfEarningsByTheDay 17 = .ok (.aload_n 0, 1) := by decide +kernel
theorem dX1_bitsOfEarningsByTheDay_18 : decode cX1_bitsOfEarningsByTheDay 18 = .ok (.getfield 27, 3) := by decide +kernel
theorem dX1_bitsOfEarningsByTheDay_21 : decode cX1_bitsOfEarningsByTheDay 21 = .ok (.i2f, 1) := by decide +kernel
theorem dX1_bitsOfEarningsByTheDay_22 : decode cX1_bitsOfEarningsByTheDay 22 = .ok (.fdiv, 1) := by decide +kernel
theorem dX1_bitsOfEarningsByTheDay_23 : decode cX1_bitsOfEarningsByTheDay 23 = .ok (.invokestatic 33, 3) := by decide +kernel
theorem dX1_bitsOfEarningsByTheDay_26 : decode cX1_bitsOfEarningsByTheDay 26 = .ok (.ireturn, 1) := by decide +kernel
theorem dX1_bitsOf_0 : decode cX1_bitsOf 0 = .ok (.fload_n 0, 1) := by decide +kernel
theorem dX1_bitsOf_1 : decode cX1_bitsOf 1 = .ok (.fconst 0, 1) := by decide +kernel
theorem dX1_bitsOf_2 : decode cX1_bitsOf 2 = .ok (.fcmp .g, 1) := by decide +kernel
theorem dX1_bitsOf_3 : decode cX1_bitsOf 3 = .ok (.ifCond .ge 8, 3) := by decide +kernel
theorem dX1_bitsOf_6 : decode cX1_bitsOf 6 = .ok (.ldc 39, 2) := by decide +kernel
theorem dX1_bitsOf_8 : decode cX1_bitsOf 8 = .ok (.goto 4, 3) := by decide +kernel
theorem dX1_bitsOf_11 : decode cX1_bitsOf 11 = .ok (.iconst 0, 1) := by decide +kernel
theorem dX1_bitsOf_12 : decode cX1_bitsOf 12 = .ok (.istore_n 1, 1) := by decide +kernel
theorem dX1_bitsOf_13 : decode cX1_bitsOf 13 = .ok (.fload_n 0, 1) := by decide +kernel
theorem dX1_bitsOf_14 : decode cX1_bitsOf 14 = .ok (.fconst 0, 1) := by decide +kernel
theorem dX1_bitsOf_15 : decode cX1_bitsOf 15 = .ok (.fcmp .g, 1) := by decide +kernel
theorem dX1_bitsOf_16 : decode cX1_bitsOf 16 = .ok (.ifCond .ge 8, 3) := by decide +kernel
theorem dX1_bitsOf_19 : decode cX1_bitsOf 19 = .ok (.fload_n 0, 1) := by decide +kernel
theorem dX1_bitsOf_20 : decode cX1_bitsOf 20 = .ok (.fneg, 1) := by decide +kernel
theorem dX1_bitsOf_21 : decode cX1_bitsOf 21 = .ok (.goto 4, 3) := by decide +kernel
theorem dX1_bitsOf_24 : decode cX1_bitsOf 24 = .ok (.fload_n 0, 1) := by decide +kernel
theorem dX1_bitsOf_25 : decode cX1_bitsOf 25 = .ok (.fstore_n 2, 1) := by decide +kernel
theorem dX1_bitsOf_26 : decode cX1_bitsOf 26 = .ok (.sipush 150, 3) := by decide +kernel
theorem dX1_bitsOf_29 : decode cX1_bitsOf 29 = .ok (.istore_n 3, 1) := by decide +kernel
theorem dX1_bitsOf_30 : decode cX1_bitsOf 30 = .ok (.iload_n 3, 1) := by decide +kernel
theorem dX1_bitsOf_31 : decode cX1_bitsOf 31 = .ok (.ifCond .le 33, 3) := by decide +kernel
theorem dX1_bitsOf_34 : decode cX1_bitsOf 34 = .ok (.fload_n 2, 1) := by decide +kernel
theorem dX1_bitsOf_35 : decode cX1_bitsOf 35 = .ok (.ldc 40, 2) := by decide +kernel
theorem dX1_bitsOf_37 : decode cX1_bitsOf 37 = .ok (.fcmp .l, 1) := by decide +kernel
theorem dX1_bitsOf_38 : decode cX1_bitsOf 38 = .ok (.ifCond .lt 16, 3) := by decide +kernel
theorem dX1_bitsOf_41 : decode cX1_bitsOf 41 = .ok (.iload_n 1, 1) := by decide +kernel
theorem dX1_bitsOf_42 : decode cX1_bitsOf 42 = .ok (.iload_n 3, 1) := by decide +kernel
theorem dX1_bitsOf_43 : decode cX1_bitsOf 43 = .ok (.bipush 23, 2) := by decide +kernel
theorem dX1_bitsOf_45 : decode cX1_bitsOf 45 = .ok (.ishl, 1) := by decide +kernel
theorem dX1_bitsOf_46 : decode cX1_bitsOf 46 = .ok (.ior, 1) := by decide +kernel
theorem dX1_bitsOf_47 : decode cX1_bitsOf 47 = .ok (.fload_n 2, 1) := by decide +kernel
theorem dX1_bitsOf_48 : decode cX1_bitsOf 48 = .ok (.f2i, 1) := by decide +kernel
theorem dX1_bitsOf_49 : decode cX1_bitsOf 49 = .ok (.ldc 41, 2) := by decide +kernel
theorem dX1_bitsOf_51 : decode cX1_bitsOf 51 = .ok (.iand, 1) := by decide +kernel
theorem dX1_bitsOf_52 : decode cX1_bitsOf 52 = .ok (.ior, 1) := by decide +kernel
theorem dX1_bitsOf_53 : decode cX1_bitsOf 53 = .ok (.ireturn, 1) := by decide +kernel
theorem dX1_bitsOf_54 : decode cX1_bitsOf 54 = .ok (.fload_n 2, 1) := by decide +kernel
theorem dX1_bitsOf_55 : decode cX1_bitsOf 55 = .ok (.fconst 2, 1) := by decide +kernel
theorem dX1_bitsOf_56 : decode cX1_bitsOf 56 = .ok (.fmul, 1) := by decide +kernel
theorem dX1_bitsOf_57 : decode cX1_bitsOf 57 = .ok (.fstore_n 2, 1) := by decide +kernel
theorem dX1_bitsOf_58 : decode cX1_bitsOf 58 = .ok (.iinc 3 (-1), 3) := by decide +kernel
theorem dX1_bitsOf_61 : decode cX1_bitsOf 61 = .ok (.goto (-31), 3) := by decide +kernel
theorem dX1_bitsOf_64 : decode cX1_bitsOf 64 = .ok (.iconst 0, 1) := by decide +kernel
theorem dX1_bitsOf_65 : decode cX1_bitsOf 65 = .ok (.ireturn, 1) := by decide +kernel
theorem dX2_init_0 : decode cX2_init 0 = .ok (.aload_n 0, 1) := by decide +kernel
theorem dX2_init_1 : decode cX2_init 1 = .ok (.invokespecial 3, 3) := by decide +kernel
theorem dX2_init_4 : decode cX2_init 4 = .ok (.aload_n 0, 1) := by decide +kernel
theorem dX2_init_5 : decode cX2_init 5 = .ok (.bipush 8, 2) := by decide +kernel
theorem dX2_init_7 : decode cX2_init 7 = .ok (.newarray .int, 2) := by decide +kernel
theorem dX2_init_9 : decode cX2_init 9 = .ok (.putfield 9, 3) := by decide +kernel
theorem dX2_init_12 : decode cX2_init 12 = .ok (.aload_n 0, 1) := by decide +kernel
theorem dX2_init_13 : decode cX2_init 13 = .ok (.bipush 8, 2) := by decide +kernel
theorem dX2_init_15 : decode cX2_init 15 = .ok (.newarray .int, 2) := by decide +kernel
theorem dX2_init_17 : decode cX2_init 17 = .ok (.putfield 15, 3) := by decide +kernel
theorem dX2_init_20 : decode cX2_init 20 = .ok (.aload_n 0, 1) := by decide +kernel
theorem dX2_init_21 : decode cX2_init 21 = .ok (.iconst 5, 1) := by decide +kernel
theorem dX2_init_22 : decode cX2_init 22 = .ok (.anewarray 18, 3) := by decide +kernel
theorem dX2_init_25 : decode cX2_init 25 = .ok (.putfield 20, 3) := by decide +kernel
theorem dX2_init_28 : decode cX2_init 28 = .ok (.aload_n 0, 1) := by decide +kernel
theorem dX2_init_29 : decode cX2_init 29 = .ok (.bipush 10, 2) := by decide +kernel
theorem dX2_init_31 : decode cX2_init 31 = .ok (.anewarray 24, 3) := by decide +kernel
theorem dX2_init_34 : decode cX2_init 34 = .ok (.putfield 26, 3) := by decide +kernel
theorem dX2_init_37 : decode cX2_init 37 = .ok (.aload_n 0, 1) := by decide +kernel
theorem dX2_init_38 : decode cX2_init 38 = .ok (.new 30, 3) := by decide +kernel
theorem dX2_init_41 : decode cX2_init 41 = .ok (.dup, 1) := by decide +kernel
theorem dX2_init_42 : decode cX2_init 42 = .ok (.invokespecial 32, 3) := by decide +kernel
theorem dX2_init_45 : decode cX2_init 45 = .ok (.putfield 33, 3) := by decide +kernel
theorem dX2_init_48 : decode cX2_init 48 = .ok (.iconst 0, 1) := by decide +kernel
theorem dX2_init_49 : decode cX2_init 49 = .ok (.istore_n 1, 1) := by decide +kernel
theorem dX2_init_50 : decode cX2_init 50 = .ok (.iload_n 1, 1) := by decide +kernel
theorem dX2_init_51 : decode cX2_init 51 = .ok (.bipush 8, 2) := by decide +kernel
theorem dX2_init_53 : decode cX2_init 53 = .ok (.if_icmp .ge 30, 3) := by decide +kernel
theorem dX2_init_56 : decode cX2_init 56 = .ok (.aload_n 0, 1) := by decide +kernel
theorem dX2_init_57 : decode cX2_init 57 = .ok (.getfield 9, 3) := by decide +kernel
theorem dX2_init_60 : decode cX2_init 60 = .ok (.iload_n 1, 1) := by decide +kernel
theorem dX2_init_61 : decode cX2_init 61 = .ok (.bipush 10, 2) := by decide +kernel
theorem dX2_init_63 : decode cX2_init 63 = .ok (.iload_n 1, 1) := by decide +kernel
theorem dX2_init_64 : decode cX2_init 64 = .ok (.imul, 1) := by decide +kernel
theorem dX2_init_65 : decode cX2_init 65 = .ok (.iastore, 1) := by decide +kernel
theorem dX2_init_66 : decode cX2_init 66 = .ok (.aload_n 0, 1) := by decide +kernel
theorem dX2_init_67 : decode cX2_init 67 = .ok (.getfield 15, 3) := by decide +kernel
theorem dX2_init_70 : decode cX2_init 70 = .ok (.iload_n 1, 1) := by decide +kernel
theorem dX2_init_71 : decode cX2_init 71 = .ok (.iconst 5, 1) := by decide +kernel
theorem dX2_init_72 : decode cX2_init 72 = .ok (.iload_n 1, 1) := by decide +kernel
theorem dX2_init_73 : decode cX2_init 73 = .ok (.iconst 3, 1) := by decide +kernel
theorem dX2_init_74 : decode cX2_init 74 = .ok (.irem, 1) := by decide +kernel
theorem dX2_init_75 : decode cX2_init 75 = .ok (.imul, 1) := by decide +kernel
theorem dX2_init_76 : decode cX2_init 76 = .ok (.iastore, 1) := by decide +kernel
theorem dX2_init_77 : decode cX2_init 77 = .ok (.iinc 1 1, 3) := by decide +kernel
theorem dX2_init_80 : decode cX2_init 80 = .ok (.goto (-30), 3) := by decide +kernel
theorem dX2_init_83 : decode cX2_init 83 = .ok (.iconst 0, 1) := by decide +kernel
theorem dX2_init_84 : decode cX2_init 84 = .ok (.istore_n 1, 1) := by decide +kernel
theorem dX2_init_85 : decode cX2_init 85 = .ok (.iload_n 1, 1) := by decide +kernel
theorem dX2_init_86 : decode cX2_init 86 = .ok (.iconst 5, 1) := by decide +kernel
theorem dX2_init_87 : decode cX2_init 87 = .ok (.if_icmp .ge 22, 3) := by decide +kernel
theorem dX2_init_90 : decode cX2_init 90 = .ok (.aload_n 0, 1) := by decide +kernel
theorem dX2_init_91 : decode cX2_init 91 = .ok (.getfield 20, 3) := by decide +kernel
theorem dX2_init_94 : decode cX2_init 94 = .ok (.iload_n 1, 1) := by decide +kernel
theorem dX2_init_95 : decode cX2_init 95 = .ok (.new 18, 3) := by decide +kernel
theorem dX2_init_98 : decode cX2_init 98 = .ok (.dup, 1) := by decide +kernel
theorem dX2_init_99 : decode cX2_init 99 = .ok (.invokespecial 37, 3) := by decide +kernel
theorem dX2_init_102 : decode cX2_init 102 = .ok (.aastore, 1) := by decide +kernel
theorem dX2_init_103 : decode cX2_init 103 = .ok (.iinc 1 1, 3) := by decide +kernel
theorem dX2_init_106 : decode cX2_init 106 = .ok (.goto (-21), 3) := by decide +kernel
theorem dX2_init_109 : decode cX2_init 109 = .ok (.iconst 0, 1) := by decide +kernel
theorem dX2_init_110 : decode cX2_init 110 = .ok (.istore_n 1, 1) := by decide +kernel
theorem dX2_init_111 : decode cX2_init 111 = .ok (.iload_n 1, 1) := by decide +kernel
theorem dX2_init_112 : decode cX2_init 112 = .ok (.bipush 10, 2) := by decide +kernel
theorem dX2_init_114 : decode cX2_init 114 = .ok (.if_icmp .ge 22, 3) := by decide +kernel
theorem dX2_init_117 : decode cX2_init 117 = .ok (.aload_n 0, 1) := by decide +kernel
theorem dX2_init_118 : decode cX2_init 118 = .ok (.getfield 26, 3) := by decide +kernel
theorem dX2_init_121 : decode cX2_init 121 = .ok (.iload_n 1, 1) := by decide +kernel
theorem dX2_init_122 : decode cX2_init 122 = .ok (.new 24, 3) := by decide +kernel
theorem dX2_init_125 : decode cX2_init 125 = .ok (.dup, 1) := by decide +kernel
theorem dX2_init_126 : decode cX2_init 126 = .ok (.invokespecial 38, 3) := by decide +kernel
theorem dX2_init_129 : decode cX2_init 129 = .ok (.aastore, 1) := by decide +kernel
theorem dX2_init_130 : decode cX2_init 130 = .ok (.iinc 1 1, 3) := by decide +kernel
theorem dX2_init_133 : decode cX2_init 133 = .ok (.goto (-22), 3) := by decide +kernel
theorem dX2_init_136 : decode cX2_init 136 = .ok (.return_, 1) := by decide +kernel
theorem dX2_copyFrom_0 : decode cX2_copyFrom 0 = .ok (.aload_n 1, 1) := by decide +kernel
theorem dX2_copyFrom_1 : decode cX2_copyFrom 1 = .ok (.getfield 9, 3) := by decide +kernel
theorem dX2_copyFrom_4 : decode cX2_copyFrom 4 = .ok (.iconst 0, 1) := by decide +kernel
theorem dX2_copyFrom_5 : decode cX2_copyFrom 5 = .ok (.aload_n 0, 1) := by decide +kernel
theorem dX2_copyFrom_6 : decode cX2_copyFrom 6 = .ok (.getfield 9, 3) := by decide +kernel
theorem dX2_copyFrom_9 : decode cX2_copyFrom 9 = .ok (.iconst 0, 1) := by decide +kernel
theorem dX2_copyFrom_10 : decode cX2_copyFrom 10 = .ok (.bipush 8, 2) := by decide +kernel
theorem dX2_copyFrom_12 : decode cX2_copyFrom 12 = .ok (.invokestatic 39, 3) := by decide +kernel
theorem dX2_copyFrom_15 : decode cX2_copyFrom 15 = .ok (.aload_n 1, 1) := by decide +kernel
theorem dX2_copyFrom_16 : decode cX2_copyFrom 16 = .ok (.getfield 15, 3) := by decide +kernel
theorem dX2_copyFrom_19 : decode cX2_copyFrom 19 = .ok (.iconst 0, 1) := by decide +kernel
theorem dX2_copyFrom_20 : decode cX2_copyFrom 20 = .ok (.aload_n 0, 1) := by decide +kernel
theorem dX2_copyFrom_21 : decode cX2_copyFrom 21 = .ok (.getfield 15, 3) := by decide +kernel
theorem dX2_copyFrom_24 : decode cX2_copyFrom 24 = .ok (.iconst 0, 1) := by decide +kernel
theorem dX2_copyFrom_25 : decode cX2_copyFrom 25 = .ok (.bipush 8, 2) := by decide +kernel
theorem dX2_copyFrom_27 : decode cX2_copyFrom 27 = .ok (.invokestatic 39, 3) := by decide +kernel
theorem dX2_copyFrom_30 : decode cX2_copyFrom 30 = .ok (.iconst 0, 1) := by decide +kernel
theorem dX2_copyFrom_31 : decode cX2_copyFrom 31 = .ok (.istore_n 2, 1) := by decide +kernel
theorem dX2_copyFrom_32 : decode cX2_copyFrom 32 = .ok (.iload_n 2, 1) := by decide +kernel
theorem dX2_copyFrom_33 : decode cX2_copyFrom 33 = .ok (.iconst 5, 1) := by decide +kernel
theorem dX2_copyFrom_34 : decode cX2_copyFrom 34 = .ok (.if_icmp .ge 24, 3) := by decide +kernel
theorem dX2_copyFrom_37 : decode cX2_copyFrom 37 = .ok (.aload_n 0, 1) := by decide +kernel
theorem dX2_copyFrom_38 : decode cX2_copyFrom 38 = .ok (.getfield 20, 3) := by decide +kernel
theorem dX2_copyFrom_41 : decode cX2_copyFrom 41 = .ok (.iload_n 2, 1) := by decide +kernel
theorem dX2_copyFrom_42 : decode cX2_copyFrom 42 = .ok (.aaload, 1) := by decide +kernel
theorem dX2_copyFrom_43 : decode cX2_copyFrom 43 = .ok (.aload_n 1, 1) := by decide +kernel
theorem dX2_copyFrom_44 : decode cX2_copyFrom 44 = .ok (.getfield 20, 3) := by decide +kernel
theorem dX2_copyFrom_47 : decode cX2_copyFrom 47 = .ok (.iload_n 2, 1) := by decide +kernel
theorem dX2_copyFrom_48 : decode cX2_copyFrom 48 = .ok (.aaload, 1) := by decide +kernel
theorem dX2_copyFrom_49 : decode cX2_copyFrom 49 = .ok (.invokevirtual 45, 3) := by decide +kernel
theorem dX2_copyFrom_52 : decode cX2_copyFrom 52 = .ok (.iinc 2 1, 3) := by decide +kernel
theorem dX2_copyFrom_55 : decode cX2_copyFrom 55 = .ok (.goto (-23), 3) := by decide +kernel
theorem dX2_copyFrom_58 : decode cX2_copyFrom 58 = .ok (.iconst 0, 1) := by decide +kernel
theorem dX2_copyFrom_59 : decode cX2_copyFrom 59 = .ok (.istore_n 2, 1) := by decide +kernel
theorem dX2_copyFrom_60 : decode cX2_copyFrom 60 = .ok (.iload_n 2, 1) := by decide +kernel
theorem dX2_copyFrom_61 : decode cX2_copyFrom 61 = .ok (.bipush 10, 2) := by decide +kernel
theorem dX2_copyFrom_63 : decode cX2_copyFrom 63 = .ok (.if_icmp .ge 24, 3) := by decide +kernel
theorem dX2_copyFrom_66 : decode cX2_copyFrom 66 = .ok (.aload_n 0, 1) := by decide +kernel
theorem dX2_copyFrom_67 : decode cX2_copyFrom 67 = .ok (.getfield 26, 3) := by decide +kernel
theorem dX2_copyFrom_70 : decode cX2_copyFrom 70 = .ok (.iload_n 2, 1) := by decide +kernel
theorem dX2_copyFrom_71 : decode cX2_copyFrom 71 = .ok (.aaload, 1) := by decide +kernel
theorem dX2_copyFrom_72 : decode cX2_copyFrom 72 = .ok (.aload_n 1, 1) := by decide +kernel
theorem dX2_copyFrom_73 : decode cX2_copyFrom 73 = .ok (.getfield 26, 3) := by decide +kernel
theorem dX2_copyFrom_76 : decode cX2_copyFrom 76 = .ok (.iload_n 2, 1) := by decide +kernel
theorem dX2_copyFrom_77 : decode cX2_copyFrom 77 = .ok (.aaload, 1) := by decide +kernel
theorem dX2_copyFrom_78 : decode cX2_copyFrom 78 = .ok (.invokevirtual 49, 3) := by decide +kernel
theorem dX2_copyFrom_81 : decode cX2_copyFrom 81 = .ok (.iinc 2 1, 3) := by decide +kernel
theorem dX2_copyFrom_84 : decode cX2_copyFrom 84 = .ok (.goto (-24), 3) := by decide +kernel
theorem dX2_copyFrom_87 : decode cX2_copyFrom 87 = .ok (.aload_n 0, 1) := by decide +kernel
theorem dX2_copyFrom_88 : decode cX2_copyFrom 88 = .ok (.aload_n 1, 1) := by decide +kernel
theorem dX2_copyFrom_89 : decode cX2_copyFrom 89 = .ok (.getfield 52, 3) := by decide +kernel
theorem dX2_copyFrom_92 : decode cX2_copyFrom 92 = .ok (.putfield 52, 3) := by decide +kernel
theorem dX2_copyFrom_95 : decode cX2_copyFrom 95 = .ok (.aload_n 0, 1) := by decide +kernel
theorem dX2_copyFrom_96 : decode cX2_copyFrom 96 = .ok (.aload_n 1, 1) := by decide +kernel
theorem dX2_copyFrom_97 : decode cX2_copyFrom 97 = .ok (.getfield 56, 3) := by decide +kernel
theorem dX2_copyFrom_100 : decode cX2_copyFrom 100 = .ok (.putfield 56, 3) := by decide +kernel
theorem dX2_copyFrom_103 : decode cX2_copyFrom 103 = .ok (.aload_n 0, 1) := by decide +kernel
theorem dX2_copyFrom_104 : decode cX2_copyFrom 104 = .ok (.aload_n 1, 1) := by decide +kernel
theorem dX2_copyFrom_105 : decode cX2_copyFrom 105 = .ok (.getfield 59, 3) := by decide +kernel
theorem dX2_copyFrom_108 : decode cX2_copyFrom 108 = .ok (.putfield 59, 3) := by decide +kernel
theorem dX2_copyFrom_111 : decode cX2_copyFrom 111 = .ok (.aload_n 0, 1) := by decide +kernel
theorem dX2_copyFrom_112 : decode cX2_copyFrom 112 = .ok (.aload_n 1, 1) := by decide +kernel
theorem dX2_copyFrom_113 : decode cX2_copyFrom 113 = .ok (.getfield 62, 3) := by decide +kernel
theorem dX2_copyFrom_116 : decode cX2_copyFrom 116 = .ok (.putfield 62, 3) := by decide +kernel
theorem dX2_copyFrom_119 : decode cX2_copyFrom 119 = .ok (.return_, 1) := by decide +kernel
theorem dX2_isShip_0 : decode cX2_isShip 0 = .ok (.iload_n 1, 1) := by decide +kernel
theorem dX2_isShip_1 : decode cX2_isShip 1 = .ok (.ifCond .lt 15, 3) := by decide +kernel
theorem dX2_isShip_4 : decode cX2_isShip 4 = .ok (.iload_n 1, 1) := by decide +kernel
theorem dX2_isShip_5 : decode cX2_isShip 5 = .ok (.aload_n 0, 1) := by decide +kernel
theorem dX2_isShip_6 : decode cX2_isShip 6 = .ok (.getfield 52, 3) := by decide +kernel
theorem dX2_isShip_9 : decode cX2_isShip 9 = .ok (.if_icmp .ge 7, 3) := by decide +kernel
theorem dX2_isShip_12 : decode cX2_isShip 12 = .ok (.iconst 1, 1) := by decide +kernel
theorem dX2_isShip_13 : decode cX2_isShip 13 = .ok (.goto 4, 3) := by decide +kernel
theorem dX2_isShip_16 : decode cX2_isShip 16 = .ok (.iconst 0, 1) := by decide +kernel
theorem dX2_isShip_17 : decode cX2_isShip 17 = .ok (.ireturn, 1) := by decide +kernel
theorem dX2_isCargo_0 : decode cX2_isCargo 0 = .ok (.iload_n 1, 1) := by decide +kernel
theorem dX2_isCargo_1 : decode cX2_isCargo 1 = .ok (.ifCond .lt 15, 3) := by decide +kernel
theorem dX2_isCargo_4 : decode cX2_isCargo 4 = .ok (.iload_n 1, 1) := by decide +kernel
theorem dX2_isCargo_5 : decode cX2_isCargo 5 = .ok (.aload_n 0, 1) := by decide +kernel
theorem dX2_isCargo_6 : decode cX2_isCargo 6 = .ok (.getfield 56, 3) := by decide +kernel
theorem dX2_isCargo_9 : decode cX2_isCargo 9 = .ok (.if_icmp .ge 7, 3) := by decide +kernel
theorem dX2_isCargo_12 : decode cX2_isCargo 12 = .ok (.iconst 1, 1) := by decide +kernel
theorem dX2_isCargo_13 : decode cX2_isCargo 13 = .ok (.goto 4, 3) := by decide +kernel
theorem dX2_isCargo_16 : decode cX2_isCargo 16 = .ok (.iconst 0, 1) := by decide +kernel
theorem dX2_isCargo_17 : decode cX2_isCargo 17 = .ok (.ireturn, 1) := by decide +kernel
theorem dX2_movePort_0 : decode cX2_movePort 0 = .ok (.iload_n 1, 1) := by decide +kernel
theorem dX2_movePort_1 : decode cX2_movePort 1 = .ok (.invokestatic 65, 3) := by decide +kernel
theorem dX2_movePort_4 : decode cX2_movePort 4 = .ok (.ifCond .eq 23, 3) := by decide +kernel
theorem dX2_movePort_7 : decode cX2_movePort 7 = .ok (.iload_n 2, 1) := by decide +kernel
theorem dX2_movePort_8 : decode cX2_movePort 8 = .ok (.iconst 0, 1) := by decide +kernel
theorem dX2_movePort_9 : decode cX2_movePort 9 = .ok (.bipush 99, 2) := by decide +kernel
theorem dX2_movePort_11 : decode cX2_movePort 11 = .ok (.invokestatic 69, 3) := by decide +kernel
theorem dX2_movePort_14 : decode cX2_movePort 14 = .ok (.ifCond .eq 13, 3) := by decide +kernel
theorem dX2_movePort_17 : decode cX2_movePort 17 = .ok (.iload_n 3, 1) := by decide +kernel
theorem dX2_movePort_18 : decode cX2_movePort 18 = .ok (.iconst 0, 1) := by decide +kernel
theorem dX2_movePort_19 : decode cX2_movePort 19 = .ok (.bipush 99, 2) := by decide +kernel
theorem dX2_movePort_21 : decode cX2_movePort 21 = .ok (.invokestatic 69, 3) := by decide +kernel
theorem dX2_movePort_24 : decode cX2_movePort 24 = .ok (.ifCond .ne 6, 3) := by decide +kernel
theorem dX2_movePort_27 : decode cX2_movePort 27 = .ok (.ldc 73, 2) := by decide +kernel
theorem dX2_movePort_29 : decode cX2_movePort 29 = .ok (.ireturn, 1) := by decide +kernel
theorem dX2_movePort_30 : decode cX2_movePort 30 = .ok (.aload_n 0, 1) := by decide +kernel
theorem dX2_movePort_31 : decode cX2_movePort 31 = .ok (.iconst 1, 1) := by decide +kernel
theorem dX2_movePort_32 : decode cX2_movePort 32 = .ok (.invokevirtual 74, 3) := by decide +kernel
theorem dX2_movePort_35 : decode cX2_movePort 35 = .ok (.ifCond .le 6, 3) := by decide +kernel
theorem dX2_movePort_38 : decode cX2_movePort 38 = .ok (.ldc 78, 2) := by decide +kernel
theorem dX2_movePort_40 : decode cX2_movePort 40 = .ok (.ireturn, 1) := by decide +kernel
theorem dX2_movePort_41 : decode cX2_movePort 41 = .ok (.bipush 100, 2) := by decide +kernel
theorem dX2_movePort_43 : decode cX2_movePort 43 = .ok (.aload_n 0, 1) := by decide +kernel
theorem dX2_movePort_44 : decode cX2_movePort 44 = .ok (.getfield 9, 3) := by decide +kernel
theorem dX2_movePort_47 : decode cX2_movePort 47 = .ok (.iload_n 1, 1) := by decide +kernel
theorem dX2_movePort_48 : decode cX2_movePort 48 = .ok (.iaload, 1) := by decide +kernel
theorem dX2_movePort_49 : decode cX2_movePort 49 = .ok (.imul, 1) := by decide +kernel
theorem dX2_movePort_50 : decode cX2_movePort 50 = .ok (.aload_n 0, 1) := by decide +kernel
theorem dX2_movePort_51 : decode cX2_movePort 51 = .ok (.getfield 15, 3) := by decide +kernel
theorem dX2_movePort_54 : decode cX2_movePort 54 = .ok (.iload_n 1, 1) := by decide +kernel
theorem dX2_movePort_55 : decode cX2_movePort 55 = .ok (.iaload, 1) := by decide +kernel
theorem dX2_movePort_56 : decode cX2_movePort 56 = .ok (.iadd, 1) := by decide +kernel
theorem dX2_movePort_57 : decode cX2_movePort 57 = .ok (.istore 4, 2) := by decide +kernel
theorem dX2_movePort_59 : decode cX2_movePort 59 = .ok (.aload_n 0, 1) := by decide +kernel
theorem dX2_movePort_60 : decode cX2_movePort 60 = .ok (.getfield 9, 3) := by decide +kernel
theorem dX2_movePort_63 : decode cX2_movePort 63 = .ok (.iload_n 1, 1) := by decide +kernel
theorem dX2_movePort_64 : decode cX2_movePort 64 = .ok (.iload_n 2, 1) := by decide +kernel
theorem dX2_movePort_65 : decode cX2_movePort 65 = .ok (.iastore, 1) := by decide +kernel
theorem dX2_movePort_66 : decode cX2_movePort 66 = .ok (.aload_n 0, 1) := by decide +kernel
theorem dX2_movePort_67 : decode cX2_movePort 67 = .ok (.getfield 15, 3) := by decide +kernel
theorem dX2_movePort_70 : decode cX2_movePort 70 = .ok (.iload_n 1, 1) := by decide +kernel
theorem dX2_movePort_71 : decode cX2_movePort 71 = .ok (.iload_n 3, 1) := by decide +kernel
theorem dX2_movePort_72 : decode cX2_movePort 72 = .ok (.iastore, 1) := by decide +kernel
theorem dX2_movePort_73 : decode cX2_movePort 73 = .ok (.iload 4, 2) := by decide +kernel
theorem dX2_movePort_75 : decode cX2_movePort 75 = .ok (.ireturn, 1) := by decide +kernel
theorem dX2_addShip_0 : decode cX2_addShip 0 = .ok (.iload_n 1, 1) := by decide +kernel
theorem dX2_addShip_1 : decode cX2_addShip 1 = .ok (.iconst 1, 1) := by decide +kernel
theorem dX2_addShip_2 : decode cX2_addShip 2 = .ok (.bipush 99, 2) := by decide +kernel
theorem dX2_addShip_4 : decode cX2_addShip 4 = .ok (.invokestatic 69, 3) := by decide +kernel
theorem dX2_addShip_7 : decode cX2_addShip 7 = .ok (.ifCond .eq 43, 3) := by decide +kernel
theorem dX2_addShip_10 : decode cX2_addShip 10 = .ok (.iload_n 2, 1) := by decide +kernel
theorem dX2_addShip_11 : decode cX2_addShip 11 = .ok (.iconst 1, 1) := by decide +kernel
theorem dX2_addShip_12 : decode cX2_addShip 12 = .ok (.bipush 20, 2) := by decide +kernel
theorem dX2_addShip_14 : decode cX2_addShip 14 = .ok (.invokestatic 69, 3) := by decide +kernel
theorem dX2_addShip_17 : decode cX2_addShip 17 = .ok (.ifCond .eq 33, 3) := by decide +kernel
theorem dX2_addShip_20 : decode cX2_addShip 20 = .ok (.iload_n 3, 1) := by decide +kernel
theorem dX2_addShip_21 : decode cX2_addShip 21 = .ok (.iconst 1, 1) := by decide +kernel
theorem dX2_addShip_22 : decode cX2_addShip 22 = .ok (.bipush 99, 2) := by decide +kernel
theorem dX2_addShip_24 : decode cX2_addShip 24 = .ok (.invokestatic 69, 3) := by decide +kernel
theorem dX2_addShip_27 : decode cX2_addShip 27 = .ok (.ifCond .eq 23, 3) := by decide +kernel
theorem dX2_addShip_30 : decode cX2_addShip 30 = .ok (.iload 4, 2) := by decide +kernel
theorem dX2_addShip_32 : decode cX2_addShip 32 = .ok (.invokestatic 65, 3) := by decide +kernel
theorem dX2_addShip_35 : decode cX2_addShip 35 = .ok (.ifCond .eq 15, 3) := by decide +kernel
theorem dX2_addShip_38 : decode cX2_addShip 38 = .ok (.iload 5, 2) := by decide +kernel
theorem dX2_addShip_40 : decode cX2_addShip 40 = .ok (.iconst 0, 1) := by decide +kernel
theorem dX2_addShip_41 : decode cX2_addShip 41 = .ok (.sipush 999, 3) := by decide +kernel
theorem dX2_addShip_44 : decode cX2_addShip 44 = .ok (.invokestatic 69, 3) := by decide +kernel
theorem dX2_addShip_47 : decode cX2_addShip 47 = .ok (.ifCond .ne 6, 3) := by decide +kernel
theorem dX2_addShip_50 : decode cX2_addShip 50 = .ok (.ldc 73, 2) := by decide +kernel
theorem dX2_addShip_52 : decode cX2_addShip 52 = .ok (.ireturn, 1) := by decide +kernel
theorem dX2_addShip_53 : decode cX2_addShip 53 = .ok (.aload_n 0, 1) := by decide +kernel
theorem dX2_addShip_54 : decode cX2_addShip 54 = .ok (.getfield 52, 3) := by decide +kernel
theorem dX2_addShip_57 : decode cX2_addShip 57 = .ok (.iconst 5, 1) := by decide +kernel
theorem dX2_addShip_58 : decode cX2_addShip 58 = .ok (.if_icmp .lt 6, 3) := by decide +kernel
theorem dX2_addShip_61 : decode cX2_addShip 61 = .ok (.ldc 79, 2) := by decide +kernel
theorem dX2_addShip_63 : decode cX2_addShip 63 = .ok (.ireturn, 1) := by decide +kernel
theorem dX2_addShip_64 : decode cX2_addShip 64 = .ok (.aload_n 0, 1) := by decide +kernel
theorem dX2_addShip_65 : decode cX2_addShip 65 = .ok (.getfield 20, 3) := by decide +kernel
theorem dX2_addShip_68 : decode cX2_addShip 68 = .ok (.aload_n 0, 1) := by decide +kernel
theorem dX2_addShip_69 : decode cX2_addShip 69 = .ok (.getfield 52, 3) := by decide +kernel
theorem dX2_addShip_72 : decode cX2_addShip 72 = .ok (.aaload, 1) := by decide +kernel
theorem dX2_addShip_73 : decode cX2_addShip 73 = .ok (.astore 6, 2) := by decide +kernel
theorem dX2_addShip_75 : decode cX2_addShip 75 = .ok (.aload 6, 2) := by decide +kernel
theorem dX2_addShip_77 : decode cX2_addShip 77 = .ok (.iload_n 1, 1) := by decide +kernel
theorem dX2_addShip_78 : decode cX2_addShip 78 = .ok (.putfield 80, 3) := by decide +kernel
theorem dX2_addShip_81 : decode cX2_addShip 81 = .ok (.aload 6, 2) := by decide +kernel
theorem dX2_addShip_83 : decode cX2_addShip 83 = .ok (.iload_n 2, 1) := by decide +kernel
theorem dX2_addShip_84 : decode cX2_addShip 84 = .ok (.putfield 83, 3) := by decide +kernel
theorem dX2_addShip_87 : decode cX2_addShip 87 = .ok (.aload 6, 2) := by decide +kernel
theorem dX2_addShip_89 : decode cX2_addShip 89 = .ok (.iload_n 3, 1) := by decide +kernel
theorem dX2_addShip_90 : decode cX2_addShip 90 = .ok (.putfield 86, 3) := by decide +kernel
theorem dX2_addShip_93 : decode cX2_addShip 93 = .ok (.aload 6, 2) := by decide +kernel
theorem dX2_addShip_95 : decode cX2_addShip 95 = .ok (.iload 4, 2) := by decide +kernel
theorem dX2_addShip_97 : decode cX2_addShip 97 = .ok (.putfield 89, 3) := by decide +kernel
theorem dX2_addShip_100 : decode cX2_addShip 100 = .ok (.aload 6, 2) := by decide +kernel
theorem dX2_addShip_102 : decode cX2_addShip 102 = .ok (.iload 5, 2) := by decide +kernel
theorem dX2_addShip_104 : decode cX2_addShip 104 = .ok (.putfield 92, 3) := by decide +kernel
theorem dX2_addShip_107 : decode cX2_addShip 107 = .ok (.aload_n 0, 1) := by decide +kernel
theorem dX2_addShip_108 : decode cX2_addShip 108 = .ok (.dup, 1) := by decide +kernel
theorem dX2_addShip_109 : decode cX2_addShip 109 = .ok (.getfield 52, 3) := by decide +kernel
theorem dX2_addShip_112 : decode cX2_addShip 112 = .ok (.dup_x1, 1) := by decide +kernel
theorem dX2_addShip_113 : decode cX2_addShip 113 = .ok (.iconst 1, 1) := by decide +kernel
theorem dX2_addShip_114 : decode cX2_addShip 114 = .ok (.iadd, 1) := by decide +kernel
theorem dX2_addShip_115 : decode cX2_addShip 115 = .ok (.putfield 52, 3) := by decide +kernel
theorem dX2_addShip_118 : decode cX2_addShip 118 = .ok (.ireturn, 1) := by decide +kernel
theorem dX2_addCargo_0 : decode cX2_addCargo 0 = .ok (.iload_n 1, 1) := by decide +kernel
theorem dX2_addCargo_1 : decode cX2_addCargo 1 = .ok (.iconst 1, 1) := by decide +kernel
theorem dX2_addCargo_2 : decode cX2_addCargo 2 = .ok (.bipush 99, 2) := by decide +kernel
theorem dX2_addCargo_4 : decode cX2_addCargo 4 = .ok (.invokestatic 69, 3) := by decide +kernel
theorem dX2_addCargo_7 : decode cX2_addCargo 7 = .ok (.ifCond .eq 58, 3) := by decide +kernel
theorem dX2_addCargo_10 : decode cX2_addCargo 10 = .ok (.iload_n 2, 1) := by decide +kernel
theorem dX2_addCargo_11 : decode cX2_addCargo 11 = .ok (.invokestatic 65, 3) := by decide +kernel
theorem dX2_addCargo_14 : decode cX2_addCargo 14 = .ok (.ifCond .eq 51, 3) := by decide +kernel
theorem dX2_addCargo_17 : decode cX2_addCargo 17 = .ok (.iload_n 3, 1) := by decide +kernel
theorem dX2_addCargo_18 : decode cX2_addCargo 18 = .ok (.invokestatic 65, 3) := by decide +kernel
theorem dX2_addCargo_21 : decode cX2_addCargo 21 = .ok (.ifCond .eq 44, 3) := by decide +kernel
theorem dX2_addCargo_24 : decode cX2_addCargo 24 = .ok (.iload_n 2, 1) := by decide +kernel
theorem dX2_addCargo_25 : decode cX2_addCargo 25 = .ok (.iload_n 3, 1) := by decide +kernel
theorem dX2_addCargo_26 : decode cX2_addCargo 26 = .ok (.if_icmp .eq 39, 3) := by decide +kernel
theorem dX2_addCargo_29 : decode cX2_addCargo 29 = .ok (.iload 4, 2) := by decide +kernel
theorem dX2_addCargo_31 : decode cX2_addCargo 31 = .ok (.iconst 0, 1) := by decide +kernel
theorem dX2_addCargo_32 : decode cX2_addCargo 32 = .ok (.sipush 999, 3) := by decide +kernel
theorem dX2_addCargo_35 : decode cX2_addCargo 35 = .ok (.invokestatic 69, 3) := by decide +kernel
theorem dX2_addCargo_38 : decode cX2_addCargo 38 = .ok (.ifCond .eq 27, 3) := by decide +kernel
theorem dX2_addCargo_41 : decode cX2_addCargo 41 = .ok (.iload 5, 2) := by decide +kernel
theorem dX2_addCargo_43 : decode cX2_addCargo 43 = .ok (.iload 4, 2) := by decide +kernel
theorem dX2_addCargo_45 : decode cX2_addCargo 45 = .ok (.sipush 999, 3) := by decide +kernel
theorem dX2_addCargo_48 : decode cX2_addCargo 48 = .ok (.invokestatic 69, 3) := by decide +kernel
theorem dX2_addCargo_51 : decode cX2_addCargo 51 = .ok (.ifCond .eq 14, 3) := by decide +kernel
theorem dX2_addCargo_54 : decode cX2_addCargo 54 = .ok (.iload 6, 2) := by decide +kernel
theorem dX2_addCargo_56 : decode cX2_addCargo 56 = .ok (.iconst 1, 1) := by decide +kernel
theorem dX2_addCargo_57 : decode cX2_addCargo 57 = .ok (.bipush 99, 2) := by decide +kernel
theorem dX2_addCargo_59 : decode cX2_addCargo 59 = .ok (.invokestatic 69, 3) := by decide +kernel
theorem dX2_addCargo_62 : decode cX2_addCargo 62 = .ok (.ifCond .ne 6, 3) := by decide +kernel
theorem dX2_addCargo_65 : decode cX2_addCargo 65 = .ok (.ldc 73, 2) := by decide +kernel
theorem dX2_addCargo_67 : decode cX2_addCargo 67 = .ok (.ireturn, 1) := by decide +kernel
theorem dX2_addCargo_68 : decode cX2_addCargo 68 = .ok (.aload_n 0, 1) := by decide +kernel
theorem dX2_addCargo_69 : decode cX2_addCargo 69 = .ok (.getfield 56, 3) := by decide +kernel
theorem dX2_addCargo_72 : decode cX2_addCargo 72 = .ok (.bipush 10, 2) := by decide +kernel
theorem dX2_addCargo_74 : decode cX2_addCargo 74 = .ok (.if_icmp .lt 6, 3) := by decide +kernel
theorem dX2_addCargo_77 : decode cX2_addCargo 77 = .ok (.ldc 79, 2) := by decide +kernel
theorem dX2_addCargo_79 : decode cX2_addCargo 79 = .ok (.ireturn, 1) := by decide +kernel
theorem dX2_addCargo_80 : decode cX2_addCargo 80 = .ok (.aload_n 0, 1) := by decide +kernel
theorem dX2_addCargo_81 : decode cX2_addCargo 81 = .ok (.getfield 26, 3) := by decide +kernel
theorem dX2_addCargo_84 : decode cX2_addCargo 84 = .ok (.aload_n 0, 1) := by decide +kernel
theorem dX2_addCargo_85 : decode cX2_addCargo 85 = .ok (.getfield 56, 3) := by decide +kernel
theorem dX2_addCargo_88 : decode cX2_addCargo 88 = .ok (.aaload, 1) := by decide +kernel
theorem dX2_addCargo_89 : decode cX2_addCargo 89 = .ok (.astore 7, 2) := by decide +kernel
theorem dX2_addCargo_91 : decode cX2_addCargo 91 = .ok (.aload 7, 2) := by decide +kernel
theorem dX2_addCargo_93 : decode cX2_addCargo 93 = .ok (.iload_n 1, 1) := by decide +kernel
theorem dX2_addCargo_94 : decode cX2_addCargo 94 = .ok (.putfield 95, 3) := by decide +kernel
theorem dX2_addCargo_97 : decode cX2_addCargo 97 = .ok (.aload 7, 2) := by decide +kernel
theorem dX2_addCargo_99 : decode cX2_addCargo 99 = .ok (.iload_n 2, 1) := by decide +kernel
theorem dX2_addCargo_100 : decode cX2_addCargo 100 = .ok (.putfield 98, 3) := by decide +kernel
theorem dX2_addCargo_103 : decode cX2_addCargo 103 = .ok (.aload 7, 2) := by decide +kernel
theorem dX2_addCargo_105 : decode cX2_addCargo 105 = .ok (.iload_n 3, 1) := by decide +kernel
theorem dX2_addCargo_106 : decode cX2_addCargo 106 = .ok (.putfield 101, 3) := by decide +kernel
theorem dX2_addCargo_109 : decode cX2_addCargo 109 = .ok (.aload 7, 2) := by decide +kernel
theorem dX2_addCargo_111 : decode cX2_addCargo 111 = .ok (.iload 4, 2) := by decide +kernel
theorem dX2_addCargo_113 : decode cX2_addCargo 113 = .ok (.putfield 104, 3) := by decide +kernel
theorem dX2_addCargo_116 : decode cX2_addCargo 116 = .ok (.aload 7, 2) := by decide +kernel
theorem dX2_addCargo_118 : decode cX2_addCargo 118 = .ok (.iload 5, 2) := by decide +kernel
theorem dX2_addCargo_120 : decode cX2_addCargo 120 = .ok (.putfield 107, 3) := by decide +kernel
theorem dX2_addCargo_123 : decode cX2_addCargo 123 = .ok (.aload 7, 2) := by decide +kernel
theorem dX2_addCargo_125 : decode cX2_addCargo 125 = .ok (.iload 6, 2) := by decide +kernel
theorem dX2_addCargo_127 : decode cX2_addCargo 127 = .ok (.putfield 110, 3) := by decide +kernel
theorem dX2_addCargo_130 : decode cX2_addCargo 130 = .ok (.aload_n 0, 1) := by decide +kernel
theorem dX2_addCargo_131 : decode cX2_addCargo 131 = .ok (.dup, 1) := by decide +kernel
theorem dX2_addCargo_132 : decode cX2_addCargo 132 = .ok (.getfield 56, 3) := by decide +kernel
theorem dX2_addCargo_135 : decode cX2_addCargo 135 = .ok (.dup_x1, 1) := by decide +kernel
theorem dX2_addCargo_136 : decode cX2_addCargo 136 = .ok (.iconst 1, 1) := by decide +kernel
theorem dX2_addCargo_137 : decode cX2_addCargo 137 = .ok (.iadd, 1) := by decide +kernel
theorem dX2_addCargo_138 : decode cX2_addCargo 138 = .ok (.putfield 56, 3) := by decide +kernel
theorem dX2_addCargo_141 : decode cX2_addCargo 141 = .ok (.ireturn, 1) := by decide +kernel
theorem dX2_fixShip_0 : decode cX2_fixShip 0 = .ok (.aload_n 0, 1) := by decide +kernel
theorem dX2_fixShip_1 : decode cX2_fixShip 1 = .ok (.iload_n 1, 1) := by decide +kernel
theorem dX2_fixShip_2 : decode cX2_fixShip 2 = .ok (.invokevirtual 113, 3) := by decide +kernel
theorem dX2_fixShip_5 : decode cX2_fixShip 5 = .ok (.ifCond .eq 11, 3) := by decide +kernel
theorem dX2_fixShip_8 : decode cX2_fixShip 8 = .ok (.aload_n 0, 1) := by decide +kernel
theorem dX2_fixShip_9 : decode cX2_fixShip 9 = .ok (.iload_n 2, 1) := by decide +kernel
theorem dX2_fixShip_10 : decode cX2_fixShip 10 = .ok (.invokevirtual 116, 3) := by decide +kernel
theorem dX2_fixShip_13 : decode cX2_fixShip 13 = .ok (.ifCond .ne 6, 3) := by decide +kernel
theorem dX2_fixShip_16 : decode cX2_fixShip 16 = .ok (.ldc 73, 2) := by decide +kernel
theorem dX2_fixShip_18 : decode cX2_fixShip 18 = .ok (.ireturn, 1) := by decide +kernel
theorem dX2_fixShip_19 : decode cX2_fixShip 19 = .ok (.aload_n 0, 1) := by decide +kernel
theorem dX2_fixShip_20 : decode cX2_fixShip 20 = .ok (.getfield 20, 3) := by decide +kernel
theorem dX2_fixShip_23 : decode cX2_fixShip 23 = .ok (.iload_n 1, 1) := by decide +kernel
theorem dX2_fixShip_24 : decode cX2_fixShip 24 = .ok (.aaload, 1) := by decide +kernel
theorem dX2_fixShip_25 : decode cX2_fixShip 25 = .ok (.astore_n 3, 1) := by decide +kernel
theorem dX2_fixShip_26 : decode cX2_fixShip 26 = .ok (.aload_n 0, 1) := by decide +kernel
theorem dX2_fixShip_27 : decode cX2_fixShip 27 = .ok (.getfield 26, 3) := by decide +kernel
theorem dX2_fixShip_30 : decode cX2_fixShip 30 = .ok (.iload_n 2, 1) := by decide +kernel
theorem dX2_fixShip_31 : decode cX2_fixShip 31 = .ok (.aaload, 1) := by decide +kernel
theorem dX2_fixShip_32 : decode cX2_fixShip 32 = .ok (.astore 4, 2) := by decide +kernel
theorem dX2_fixShip_34 : decode cX2_fixShip 34 = .ok (.aload 4, 2) := by decide +kernel
theorem dX2_fixShip_36 : decode cX2_fixShip 36 = .ok (.getfield 119, 3) := by decide +kernel
theorem dX2_fixShip_39 : decode cX2_fixShip 39 = .ok (.ifCond .ne 21, 3) := by decide +kernel
theorem dX2_fixShip_42 : decode cX2_fixShip 42 = .ok (.aload_n 0, 1) := by decide +kernel
theorem dX2_fixShip_43 : decode cX2_fixShip 43 = .ok (.iload_n 1, 1) := by decide +kernel
theorem dX2_fixShip_44 : decode cX2_fixShip 44 = .ok (.iload_n 2, 1) := by decide +kernel
theorem dX2_fixShip_45 : decode cX2_fixShip 45 = .ok (.invokevirtual 122, 3) := by decide +kernel
theorem dX2_fixShip_48 : decode cX2_fixShip 48 = .ok (.ifCond .ne 12, 3) := by decide +kernel
theorem dX2_fixShip_51 : decode cX2_fixShip 51 = .ok (.aload_n 3, 1) := by decide +kernel
theorem dX2_fixShip_52 : decode cX2_fixShip 52 = .ok (.getfield 126, 3) := by decide +kernel
theorem dX2_fixShip_55 : decode cX2_fixShip 55 = .ok (.bipush 10, 2) := by decide +kernel
theorem dX2_fixShip_57 : decode cX2_fixShip 57 = .ok (.if_icmp .lt 6, 3) := by decide +kernel
theorem dX2_fixShip_60 : decode cX2_fixShip 60 = .ok (.ldc 78, 2) := by decide +kernel
theorem dX2_fixShip_62 : decode cX2_fixShip 62 = .ok (.ireturn, 1) := by decide +kernel
theorem dX2_fixShip_63 : decode cX2_fixShip 63 = .ok (.aload_n 3, 1) := by decide +kernel
theorem dX2_fixShip_64 : decode cX2_fixShip 64 = .ok (.getfield 129, 3) := by decide +kernel
theorem dX2_fixShip_67 : decode cX2_fixShip 67 = .ok (.aload_n 3, 1) := by decide +kernel
theorem dX2_fixShip_68 : decode cX2_fixShip 68 = .ok (.getfield 126, 3) := by decide +kernel
theorem dX2_fixShip_71 : decode cX2_fixShip 71 = .ok (.iload_n 2, 1) := by decide +kernel
theorem dX2_fixShip_72 : decode cX2_fixShip 72 = .ok (.iastore, 1) := by decide +kernel
theorem dX2_fixShip_73 : decode cX2_fixShip 73 = .ok (.aload_n 3, 1) := by decide +kernel
theorem dX2_fixShip_74 : decode cX2_fixShip 74 = .ok (.dup, 1) := by decide +kernel
theorem dX2_fixShip_75 : decode cX2_fixShip 75 = .ok (.getfield 126, 3) := by decide +kernel
theorem dX2_fixShip_78 : decode cX2_fixShip 78 = .ok (.iconst 1, 1) := by decide +kernel
theorem dX2_fixShip_79 : decode cX2_fixShip 79 = .ok (.iadd, 1) := by decide +kernel
theorem dX2_fixShip_80 : decode cX2_fixShip 80 = .ok (.putfield 126, 3) := by decide +kernel
theorem dX2_fixShip_83 : decode cX2_fixShip 83 = .ok (.aload 4, 2) := by decide +kernel
theorem dX2_fixShip_85 : decode cX2_fixShip 85 = .ok (.iconst 1, 1) := by decide +kernel
theorem dX2_fixShip_86 : decode cX2_fixShip 86 = .ok (.putfield 119, 3) := by decide +kernel
theorem dX2_fixShip_89 : decode cX2_fixShip 89 = .ok (.aload 4, 2) := by decide +kernel
theorem dX2_fixShip_91 : decode cX2_fixShip 91 = .ok (.iload_n 1, 1) := by decide +kernel
theorem dX2_fixShip_92 : decode cX2_fixShip 92 = .ok (.putfield 132, 3) := by decide +kernel
theorem dX2_fixShip_95 : decode cX2_fixShip 95 = .ok (.aload_n 0, 1) := by decide +kernel
theorem dX2_fixShip_96 : decode cX2_fixShip 96 = .ok (.getfield 33, 3) := by decide +kernel
theorem dX2_fixShip_99 : decode cX2_fixShip 99 = .ok (.getfield 135, 3) := by decide +kernel
theorem dX2_fixShip_102 : decode cX2_fixShip 102 = .ok (.ireturn, 1) := by decide +kernel
theorem dX2_delayShip_0 : decode cX2_delayShip 0 = .ok (.aload_n 0, 1) := by decide +kernel
theorem dX2_delayShip_1 : decode cX2_delayShip 1 = .ok (.iload_n 1, 1) := by decide +kernel
theorem dX2_delayShip_2 : decode cX2_delayShip 2 = .ok (.invokevirtual 113, 3) := by decide +kernel
theorem dX2_delayShip_5 : decode cX2_delayShip 5 = .ok (.ifCond .eq 13, 3) := by decide +kernel
theorem dX2_delayShip_8 : decode cX2_delayShip 8 = .ok (.iload_n 2, 1) := by decide +kernel
theorem dX2_delayShip_9 : decode cX2_delayShip 9 = .ok (.iconst 1, 1) := by decide +kernel
theorem dX2_delayShip_10 : decode cX2_delayShip 10 = .ok (.bipush 99, 2) := by decide +kernel
theorem dX2_delayShip_12 : decode cX2_delayShip 12 = .ok (.invokestatic 69, 3) := by decide +kernel
theorem dX2_delayShip_15 : decode cX2_delayShip 15 = .ok (.ifCond .ne 6, 3) := by decide +kernel
theorem dX2_delayShip_18 : decode cX2_delayShip 18 = .ok (.ldc 73, 2) := by decide +kernel
theorem dX2_delayShip_20 : decode cX2_delayShip 20 = .ok (.ireturn, 1) := by decide +kernel
theorem dX2_delayShip_21 : decode cX2_delayShip 21 = .ok (.aload_n 0, 1) := by decide +kernel
theorem dX2_delayShip_22 : decode cX2_delayShip 22 = .ok (.getfield 20, 3) := by decide +kernel
theorem dX2_delayShip_25 : decode cX2_delayShip 25 = .ok (.iload_n 1, 1) := by decide +kernel
theorem dX2_delayShip_26 : decode cX2_delayShip 26 = .ok (.aaload, 1) := by decide +kernel
theorem dX2_delayShip_27 : decode cX2_delayShip 27 = .ok (.astore_n 3, 1) := by decide +kernel
theorem dX2_delayShip_28 : decode cX2_delayShip 28 = .ok (.aload_n 3, 1) := by decide +kernel
theorem dX2_delayShip_29 : decode cX2_delayShip 29 = .ok (.getfield 92, 3) := by decide +kernel
theorem dX2_delayShip_32 : decode cX2_delayShip 32 = .ok (.iload_n 2, 1) := by decide +kernel
theorem dX2_delayShip_33 : decode cX2_delayShip 33 = .ok (.iadd, 1) := by decide +kernel
theorem dX2_delayShip_34 : decode cX2_delayShip 34 = .ok (.sipush 1999, 3) := by decide +kernel
theorem dX2_delayShip_37 : decode cX2_delayShip 37 = .ok (.if_icmp .le 6, 3) := by decide +kernel
theorem dX2_delayShip_40 : decode cX2_delayShip 40 = .ok (.ldc 79, 2) := by decide +kernel
theorem dX2_delayShip_42 : decode cX2_delayShip 42 = .ok (.ireturn, 1) := by decide +kernel
theorem dX2_delayShip_43 : decode cX2_delayShip 43 = .ok (.aload_n 3, 1) := by decide +kernel
theorem dX2_delayShip_44 : decode cX2_delayShip 44 = .ok (.dup, 1) := by decide +kernel
theorem dX2_delayShip_45 : decode cX2_delayShip 45 = .ok (.getfield 92, 3) := by decide +kernel
theorem dX2_delayShip_48 : decode cX2_delayShip 48 = .ok (.iload_n 2, 1) := by decide +kernel
theorem dX2_delayShip_49 : decode cX2_delayShip 49 = .ok (.iadd, 1) := by decide +kernel
theorem dX2_delayShip_50 : decode cX2_delayShip 50 = .ok (.putfield 92, 3) := by decide +kernel
theorem dX2_delayShip_53 : decode cX2_delayShip 53 = .ok (.aload_n 3, 1) := by decide +kernel
theorem dX2_delayShip_54 : decode cX2_delayShip 54 = .ok (.getfield 126, 3) := by decide +kernel
theorem dX2_delayShip_57 : decode cX2_delayShip 57 = .ok (.istore 4, 2) := by decide +kernel
theorem dX2_delayShip_59 : decode cX2_delayShip 59 = .ok (.aload_n 0, 1) := by decide +kernel
theorem dX2_delayShip_60 : decode cX2_delayShip 60 = .ok (.aload_n 3, 1) := by decide +kernel
theorem dX2_delayShip_61 : decode cX2_delayShip 61 = .ok (.aload_n 0, 1) := by decide +kernel
theorem dX2_delayShip_62 : decode cX2_delayShip 62 = .ok (.iload_n 1, 1) := by decide +kernel
theorem dX2_delayShip_63 : decode cX2_delayShip 63 = .ok (.invokevirtual 138, 3) := by decide +kernel
theorem dX2_delayShip_66 : decode cX2_delayShip 66 = .ok (.iconst 2, 1) := by decide +kernel
theorem dX2_delayShip_67 : decode cX2_delayShip 67 = .ok (.invokevirtual 141, 3) := by decide +kernel
theorem dX2_delayShip_70 : decode cX2_delayShip 70 = .ok (.iload 4, 2) := by decide +kernel
theorem dX2_delayShip_72 : decode cX2_delayShip 72 = .ok (.aload_n 3, 1) := by decide +kernel
theorem dX2_delayShip_73 : decode cX2_delayShip 73 = .ok (.getfield 126, 3) := by decide +kernel
theorem dX2_delayShip_76 : decode cX2_delayShip 76 = .ok (.isub, 1) := by decide +kernel
theorem dX2_delayShip_77 : decode cX2_delayShip 77 = .ok (.istore 5, 2) := by decide +kernel
theorem dX2_delayShip_79 : decode cX2_delayShip 79 = .ok (.aload_n 0, 1) := by decide +kernel
theorem dX2_delayShip_80 : decode cX2_delayShip 80 = .ok (.dup, 1) := by decide +kernel
theorem dX2_delayShip_81 : decode cX2_delayShip 81 = .ok (.getfield 59, 3) := by decide +kernel
theorem dX2_delayShip_84 : decode cX2_delayShip 84 = .ok (.iload 5, 2) := by decide +kernel
theorem dX2_delayShip_86 : decode cX2_delayShip 86 = .ok (.iadd, 1) := by decide +kernel
theorem dX2_delayShip_87 : decode cX2_delayShip 87 = .ok (.putfield 59, 3) := by decide +kernel
theorem dX2_delayShip_90 : decode cX2_delayShip 90 = .ok (.iload 5, 2) := by decide +kernel
theorem dX2_delayShip_92 : decode cX2_delayShip 92 = .ok (.ireturn, 1) := by decide +kernel
theorem dX2_callOffLast_0 : decode cX2_callOffLast 0 = .ok (.aload_n 0, 1) := by decide +kernel
theorem dX2_callOffLast_1 : decode cX2_callOffLast 1 = .ok (.iload_n 1, 1) := by decide +kernel
theorem dX2_callOffLast_2 : decode cX2_callOffLast 2 = .ok (.invokevirtual 113, 3) := by decide +kernel
theorem dX2_callOffLast_5 : decode cX2_callOffLast 5 = .ok (.ifCond .ne 6, 3) := by decide +kernel
theorem dX2_callOffLast_8 : decode cX2_callOffLast 8 = .ok (.ldc 73, 2) := by decide +kernel
theorem dX2_callOffLast_10 : decode cX2_callOffLast 10 = .ok (.ireturn, 1) := by decide +kernel
theorem dX2_callOffLast_11 : decode cX2_callOffLast 11 = .ok (.aload_n 0, 1) := by decide +kernel
theorem dX2_callOffLast_12 : decode cX2_callOffLast 12 = .ok (.getfield 20, 3) := by decide +kernel
theorem dX2_callOffLast_15 : decode cX2_callOffLast 15 = .ok (.iload_n 1, 1) := by decide +kernel
theorem dX2_callOffLast_16 : decode cX2_callOffLast 16 = .ok (.aaload, 1) := by decide +kernel
theorem dX2_callOffLast_17 : decode cX2_callOffLast 17 = .ok (.astore_n 2, 1) := by decide +kernel
theorem dX2_callOffLast_18 : decode cX2_callOffLast 18 = .ok (.aload_n 2, 1) := by decide +kernel
theorem dX2_callOffLast_19 : decode cX2_callOffLast 19 = .ok (.getfield 126, 3) := by decide +kernel
theorem dX2_callOffLast_22 : decode cX2_callOffLast 22 = .ok (.iconst 1, 1) := by decide +kernel
theorem dX2_callOffLast_23 : decode cX2_callOffLast 23 = .ok (.isub, 1) := by decide +kernel
theorem dX2_callOffLast_24 : decode cX2_callOffLast 24 = .ok (.istore_n 3, 1) := by decide +kernel
theorem dX2_callOffLast_25 : decode cX2_callOffLast 25 = .ok (.iload_n 3, 1) := by decide +kernel
theorem dX2_callOffLast_26 : decode cX2_callOffLast 26 = .ok (.ifCond .lt 16, 3) := by decide +kernel
theorem dX2_callOffLast_29 : decode cX2_callOffLast 29 = .ok (.aload_n 0, 1) := by decide +kernel
theorem dX2_callOffLast_30 : decode cX2_callOffLast 30 = .ok (.aload_n 2, 1) := by decide +kernel
theorem dX2_callOffLast_31 : decode cX2_callOffLast 31 = .ok (.getfield 129, 3) := by decide +kernel
theorem dX2_callOffLast_34 : decode cX2_callOffLast 34 = .ok (.iload_n 3, 1) := by decide +kernel
theorem dX2_callOffLast_35 : decode cX2_callOffLast 35 = .ok (.iaload, 1) := by decide +kernel
theorem dX2_callOffLast_36 : decode cX2_callOffLast 36 = .ok (.invokevirtual 116, 3) := by decide +kernel
theorem dX2_callOffLast_39 : decode cX2_callOffLast 39 = .ok (.ifCond .ne 6, 3) := by decide +kernel
theorem dX2_callOffLast_42 : decode cX2_callOffLast 42 = .ok (.ldc 78, 2) := by decide +kernel
theorem dX2_callOffLast_44 : decode cX2_callOffLast 44 = .ok (.ireturn, 1) := by decide +kernel
theorem dX2_callOffLast_45 : decode cX2_callOffLast 45 = .ok (.aload_n 0, 1) := by decide +kernel
theorem dX2_callOffLast_46 : decode cX2_callOffLast 46 = .ok (.getfield 26, 3) := by decide +kernel
theorem dX2_callOffLast_49 : decode cX2_callOffLast 49 = .ok (.aload_n 2, 1) := by decide +kernel
theorem dX2_callOffLast_50 : decode cX2_callOffLast 50 = .ok (.getfield 129, 3) := by decide +kernel
theorem dX2_callOffLast_53 : decode cX2_callOffLast 53 = .ok (.iload_n 3, 1) := by decide +kernel
theorem dX2_callOffLast_54 : decode cX2_callOffLast 54 = .ok (.iaload, 1) := by decide +kernel
theorem dX2_callOffLast_55 : decode cX2_callOffLast 55 = .ok (.aaload, 1) := by decide +kernel
theorem dX2_callOffLast_56 : decode cX2_callOffLast 56 = .ok (.invokevirtual 145, 3) := by decide +kernel
theorem dX2_callOffLast_59 : decode cX2_callOffLast 59 = .ok (.bipush 10, 2) := by decide +kernel
theorem dX2_callOffLast_61 : decode cX2_callOffLast 61 = .ok (.invokestatic 149, 3) := by decide +kernel
theorem dX2_callOffLast_64 : decode cX2_callOffLast 64 = .ok (.istore 4, 2) := by decide +kernel
theorem dX2_callOffLast_66 : decode cX2_callOffLast 66 = .ok (.aload_n 0, 1) := by decide +kernel
theorem dX2_callOffLast_67 : decode cX2_callOffLast 67 = .ok (.aload_n 2, 1) := by decide +kernel
theorem dX2_callOffLast_68 : decode cX2_callOffLast 68 = .ok (.iload_n 3, 1) := by decide +kernel
theorem dX2_callOffLast_69 : decode cX2_callOffLast 69 = .ok (.iconst 0, 1) := by decide +kernel
theorem dX2_callOffLast_70 : decode cX2_callOffLast 70 = .ok (.invokevirtual 141, 3) := by decide +kernel
theorem dX2_callOffLast_73 : decode cX2_callOffLast 73 = .ok (.aload_n 2, 1) := by decide +kernel
theorem dX2_callOffLast_74 : decode cX2_callOffLast 74 = .ok (.dup, 1) := by decide +kernel
theorem dX2_callOffLast_75 : decode cX2_callOffLast 75 = .ok (.getfield 152, 3) := by decide +kernel
theorem dX2_callOffLast_78 : decode cX2_callOffLast 78 = .ok (.iload 4, 2) := by decide +kernel
theorem dX2_callOffLast_80 : decode cX2_callOffLast 80 = .ok (.isub, 1) := by decide +kernel
theorem dX2_callOffLast_81 : decode cX2_callOffLast 81 = .ok (.putfield 152, 3) := by decide +kernel
theorem dX2_callOffLast_84 : decode cX2_callOffLast 84 = .ok (.aload_n 0, 1) := by decide +kernel
theorem dX2_callOffLast_85 : decode cX2_callOffLast 85 = .ok (.dup, 1) := by decide +kernel
theorem dX2_callOffLast_86 : decode cX2_callOffLast 86 = .ok (.getfield 62, 3) := by decide +kernel
theorem dX2_callOffLast_89 : decode cX2_callOffLast 89 = .ok (.iconst 1, 1) := by decide +kernel
theorem dX2_callOffLast_90 : decode cX2_callOffLast 90 = .ok (.iadd, 1) := by decide +kernel
theorem dX2_callOffLast_91 : decode cX2_callOffLast 91 = .ok (.putfield 62, 3) := by decide +kernel
theorem dX2_callOffLast_94 : decode cX2_callOffLast 94 = .ok (.iload 4, 2) := by decide +kernel
theorem dX2_callOffLast_96 : decode cX2_callOffLast 96 = .ok (.ireturn, 1) := by decide +kernel
theorem dX2_settleShip_0 : decode cX2_settleShip 0 = .ok (.aload_n 0, 1) := by decide +kernel
theorem dX2_settleShip_1 : decode cX2_settleShip 1 = .ok (.iload_n 1, 1) := by decide +kernel
theorem dX2_settleShip_2 : decode cX2_settleShip 2 = .ok (.invokevirtual 113, 3) := by decide +kernel
theorem dX2_settleShip_5 : decode cX2_settleShip 5 = .ok (.ifCond .ne 6, 3) := by decide +kernel
theorem dX2_settleShip_8 : decode cX2_settleShip 8 = .ok (.ldc 73, 2) := by decide +kernel
theorem dX2_settleShip_10 : decode cX2_settleShip 10 = .ok (.ireturn, 1) := by decide +kernel
theorem dX2_settleShip_11 : decode cX2_settleShip 11 = .ok (.aload_n 0, 1) := by decide +kernel
theorem dX2_settleShip_12 : decode cX2_settleShip 12 = .ok (.getfield 20, 3) := by decide +kernel
theorem dX2_settleShip_15 : decode cX2_settleShip 15 = .ok (.iload_n 1, 1) := by decide +kernel
theorem dX2_settleShip_16 : decode cX2_settleShip 16 = .ok (.aaload, 1) := by decide +kernel
theorem dX2_settleShip_17 : decode cX2_settleShip 17 = .ok (.astore_n 2, 1) := by decide +kernel
theorem dX2_settleShip_18 : decode cX2_settleShip 18 = .ok (.aload_n 2, 1) := by decide +kernel
theorem dX2_settleShip_19 : decode cX2_settleShip 19 = .ok (.getfield 126, 3) := by decide +kernel
theorem dX2_settleShip_22 : decode cX2_settleShip 22 = .ok (.ifCond .ne 6, 3) := by decide +kernel
theorem dX2_settleShip_25 : decode cX2_settleShip 25 = .ok (.ldc 78, 2) := by decide +kernel
theorem dX2_settleShip_27 : decode cX2_settleShip 27 = .ok (.ireturn, 1) := by decide +kernel
theorem dX2_settleShip_28 : decode cX2_settleShip 28 = .ok (.aload_n 0, 1) := by decide +kernel
theorem dX2_settleShip_29 : decode cX2_settleShip 29 = .ok (.iload_n 1, 1) := by decide +kernel
theorem dX2_settleShip_30 : decode cX2_settleShip 30 = .ok (.invokevirtual 155, 3) := by decide +kernel
theorem dX2_settleShip_33 : decode cX2_settleShip 33 = .ok (.pop, 1) := by decide +kernel
theorem dX2_settleShip_34 : decode cX2_settleShip 34 = .ok (.aload_n 2, 1) := by decide +kernel
theorem dX2_settleShip_35 : decode cX2_settleShip 35 = .ok (.dup, 1) := by decide +kernel
theorem dX2_settleShip_36 : decode cX2_settleShip 36 = .ok (.getfield 152, 3) := by decide +kernel
theorem dX2_settleShip_39 : decode cX2_settleShip 39 = .ok (.aload_n 0, 1) := by decide +kernel
theorem dX2_settleShip_40 : decode cX2_settleShip 40 = .ok (.getfield 33, 3) := by decide +kernel
theorem dX2_settleShip_43 : decode cX2_settleShip 43 = .ok (.getfield 159, 3) := by decide +kernel
theorem dX2_settleShip_46 : decode cX2_settleShip 46 = .ok (.iadd, 1) := by decide +kernel
theorem dX2_settleShip_47 : decode cX2_settleShip 47 = .ok (.putfield 152, 3) := by decide +kernel
theorem dX2_settleShip_50 : decode cX2_settleShip 50 = .ok (.aload_n 2, 1) := by decide +kernel
theorem dX2_settleShip_51 : decode cX2_settleShip 51 = .ok (.aload_n 0, 1) := by decide +kernel
theorem dX2_settleShip_52 : decode cX2_settleShip 52 = .ok (.getfield 33, 3) := by decide +kernel
theorem dX2_settleShip_55 : decode cX2_settleShip 55 = .ok (.getfield 162, 3) := by decide +kernel
theorem dX2_settleShip_58 : decode cX2_settleShip 58 = .ok (.putfield 89, 3) := by decide +kernel
theorem dX2_settleShip_61 : decode cX2_settleShip 61 = .ok (.aload_n 2, 1) := by decide +kernel
theorem dX2_settleShip_62 : decode cX2_settleShip 62 = .ok (.aload_n 0, 1) := by decide +kernel
theorem dX2_settleShip_63 : decode cX2_settleShip 63 = .ok (.getfield 33, 3) := by decide +kernel
theorem dX2_settleShip_66 : decode cX2_settleShip 66 = .ok (.getfield 135, 3) := by decide +kernel
theorem dX2_settleShip_69 : decode cX2_settleShip 69 = .ok (.putfield 92, 3) := by decide +kernel
theorem dX2_settleShip_72 : decode cX2_settleShip 72 = .ok (.aload_n 0, 1) := by decide +kernel
theorem dX2_settleShip_73 : decode cX2_settleShip 73 = .ok (.aload_n 2, 1) := by decide +kernel
theorem dX2_settleShip_74 : decode cX2_settleShip 74 = .ok (.iconst 0, 1) := by decide +kernel
theorem dX2_settleShip_75 : decode cX2_settleShip 75 = .ok (.iconst 2, 1) := by decide +kernel
theorem dX2_settleShip_76 : decode cX2_settleShip 76 = .ok (.invokevirtual 141, 3) := by decide +kernel
theorem dX2_settleShip_79 : decode cX2_settleShip 79 = .ok (.aload_n 0, 1) := by decide +kernel
theorem dX2_settleShip_80 : decode cX2_settleShip 80 = .ok (.getfield 33, 3) := by decide +kernel
theorem dX2_settleShip_83 : decode cX2_settleShip 83 = .ok (.getfield 159, 3) := by decide +kernel
theorem dX2_settleShip_86 : decode cX2_settleShip 86 = .ok (.ldc 165, 2) := by decide +kernel
theorem dX2_settleShip_88 : decode cX2_settleShip 88 = .ok (.iadd, 1) := by decide +kernel
theorem dX2_settleShip_89 : decode cX2_settleShip 89 = .ok (.ireturn, 1) := by decide +kernel
theorem dX2_dropFixtures_0 : decode cX2_dropFixtures 0 = .ok (.iload_n 2, 1) := by decide +kernel
theorem dX2_dropFixtures_1 : decode cX2_dropFixtures 1 = .ok (.istore 4, 2) := by decide +kernel
theorem dX2_dropFixtures_3 : decode cX2_dropFixtures 3 = .ok (.iload 4, 2) := by decide +kernel
theorem dX2_dropFixtures_5 : decode cX2_dropFixtures 5 = .ok (.aload_n 1, 1) := by decide +kernel
theorem dX2_dropFixtures_6 : decode cX2_dropFixtures 6 = .ok (.getfield 126, 3) := by decide +kernel
theorem dX2_dropFixtures_9 : decode cX2_dropFixtures 9 = .ok (.if_icmp .ge 39, 3) := by decide +kernel
theorem dX2_dropFixtures_12 : decode cX2_dropFixtures 12 = .ok (.aload_n 0, 1) := by decide +kernel
theorem dX2_dropFixtures_13 : decode cX2_dropFixtures 13 = .ok (.aload_n 1, 1) := by decide +kernel
theorem dX2_dropFixtures_14 : decode cX2_dropFixtures 14 = .ok (.getfield 129, 3) := by decide +kernel
theorem dX2_dropFixtures_17 : decode cX2_dropFixtures 17 = .ok (.iload 4, 2) := by decide +kernel
theorem dX2_dropFixtures_19 : decode cX2_dropFixtures 19 = .ok (.iaload, 1) := by decide +kernel
theorem dX2_dropFixtures_20 : decode cX2_dropFixtures 20 = .ok (.invokevirtual 116, 3) := by decide +kernel
theorem dX2_dropFixtures_23 : decode cX2_dropFixtures 23 = .ok (.ifCond .eq 19, 3) := by decide +kernel
theorem dX2_dropFixtures_26 : decode cX2_dropFixtures 26 = .ok (.aload_n 0, 1) := by decide +kernel
theorem dX2_dropFixtures_27 : decode cX2_dropFixtures 27 = .ok (.getfield 26, 3) := by decide +kernel
theorem dX2_dropFixtures_30 : decode cX2_dropFixtures 30 = .ok (.aload_n 1, 1) := by decide +kernel
theorem dX2_dropFixtures_31 : decode cX2_dropFixtures 31 = .ok (.getfield 129, 3) := by decide +kernel
theorem dX2_dropFixtures_34 : decode cX2_dropFixtures 34 = .ok (.iload 4, 2) := by decide +kernel
theorem dX2_dropFixtures_36 : decode cX2_dropFixtures 36 = .ok (.iaload, 1) := by decide +kernel
theorem dX2_dropFixtures_37 : decode cX2_dropFixtures 37 = .ok (.aaload, 1) := by decide +kernel
theorem dX2_dropFixtures_38 : decode cX2_dropFixtures 38 = .ok (.iload_n 3, 1) := by decide +kernel
theorem dX2_dropFixtures_39 : decode cX2_dropFixtures 39 = .ok (.putfield 119, 3) := by decide +kernel
theorem dX2_dropFixtures_42 : decode cX2_dropFixtures 42 = .ok (.iinc 4 1, 3) := by decide +kernel
theorem dX2_dropFixtures_45 : decode cX2_dropFixtures 45 = .ok (.goto (-42), 3) := by decide +kernel
theorem dX2_dropFixtures_48 : decode cX2_dropFixtures 48 = .ok (.aload_n 1, 1) := by decide +kernel
theorem dX2_dropFixtures_49 : decode cX2_dropFixtures 49 = .ok (.iload_n 2, 1) := by decide +kernel
theorem dX2_dropFixtures_50 : decode cX2_dropFixtures 50 = .ok (.putfield 126, 3) := by decide +kernel
theorem dX2_dropFixtures_53 : decode cX2_dropFixtures 53 = .ok (.return_, 1) := by decide +kernel
theorem dX2_between_0 : decode cX2_between 0 = .ok (.aload_n 0, 1) := by decide +kernel
theorem dX2_between_1 : decode cX2_between 1 = .ok (.getfield 9, 3) := by decide +kernel
theorem dX2_between_4 : decode cX2_between 4 = .ok (.iload_n 1, 1) := by decide +kernel
theorem dX2_between_5 : decode cX2_between 5 = .ok (.iaload, 1) := by decide +kernel
theorem dX2_between_6 : decode cX2_between 6 = .ok (.aload_n 0, 1) := by decide +kernel
theorem dX2_between_7 : decode cX2_between 7 = .ok (.getfield 9, 3) := by decide +kernel
theorem dX2_between_10 : decode cX2_between 10 = .ok (.iload_n 2, 1) := by decide +kernel
theorem dX2_between_11 : decode cX2_between 11 = .ok (.iaload, 1) := by decide +kernel
theorem dX2_between_12 : decode cX2_between 12 = .ok (.isub, 1) := by decide +kernel
theorem dX2_between_13 : decode cX2_between 13 = .ok (.istore_n 3, 1) := by decide +kernel
theorem dX2_between_14 : decode cX2_between 14 = .ok (.aload_n 0, 1) := by decide +kernel
theorem dX2_between_15 : decode cX2_between 15 = .ok (.getfield 15, 3) := by decide +kernel
theorem dX2_between_18 : decode cX2_between 18 = .ok (.iload_n 1, 1) := by decide +kernel
theorem dX2_between_19 : decode cX2_between 19 = .ok (.iaload, 1) := by decide +kernel
theorem dX2_between_20 : decode cX2_between 20 = .ok (.aload_n 0, 1) := by decide +kernel
theorem dX2_between_21 : decode cX2_between 21 = .ok (.getfield 15, 3) := by decide +kernel
theorem dX2_between_24 : decode cX2_between 24 = .ok (.iload_n 2, 1) := by decide +kernel
theorem dX2_between_25 : decode cX2_between 25 = .ok (.iaload, 1) := by decide +kernel
theorem dX2_between_26 : decode cX2_between 26 = .ok (.isub, 1) := by decide +kernel
theorem dX2_between_27 : decode cX2_between 27 = .ok (.istore 4, 2) := by decide +kernel
theorem dX2_between_29 : decode cX2_between 29 = .ok (.bipush 10, 2) := by decide +kernel
theorem dX2_between_31 : decode cX2_between 31 = .ok (.iload_n 3, 1) := by decide +kernel
theorem dX2_between_32 : decode cX2_between 32 = .ok (.ifCond .ge 8, 3) := by decide +kernel
theorem dX2_between_35 : decode cX2_between 35 = .ok (.iload_n 3, 1) := by decide +kernel
theorem dX2_between_36 : decode cX2_between 36 = .ok (.ineg, 1) := by decide +kernel
theorem dX2_between_37 : decode cX2_between 37 = .ok (.goto 4, 3) := by decide +kernel
theorem dX2_between_40 : decode cX2_between 40 = .ok (.iload_n 3, 1) := by decide +kernel
theorem dX2_between_41 : decode cX2_between 41 = .ok (.iload 4, 2) := by decide +kernel
theorem dX2_between_43 : decode cX2_between 43 = .ok (.ifCond .ge 9, 3) := by decide +kernel
theorem dX2_between_46 : decode cX2_between 46 = .ok (.iload 4, 2) := by decide +kernel
theorem dX2_between_48 : decode cX2_between 48 = .ok (.ineg, 1) := by decide +kernel
theorem dX2_between_49 : decode cX2_between 49 = .ok (.goto 5, 3) := by decide +kernel
theorem dX2_between_52 : decode cX2_between 52 = .ok (.iload 4, 2) := by decide +kernel
theorem dX2_between_54 : decode cX2_between 54 = .ok (.iadd, 1) := by decide +kernel
theorem dX2_between_55 : decode cX2_between 55 = .ok (.imul, 1) := by decide +kernel
theorem dX2_between_56 : decode cX2_between 56 = .ok (.ireturn, 1) := by decide +kernel
theorem dX2_follow_0 : decode cX2_follow 0 = .ok (.aload_n 0, 1) := by decide +kernel
theorem dX2_follow_1 : decode cX2_follow 1 = .ok (.getfield 20, 3) := by decide +kernel
theorem dX2_follow_4 : decode cX2_follow 4 = .ok (.iload_n 1, 1) := by decide +kernel
theorem dX2_follow_5 : decode cX2_follow 5 = .ok (.aaload, 1) := by decide +kernel
theorem dX2_follow_6 : decode cX2_follow 6 = .ok (.astore_n 3, 1) := by decide +kernel
theorem dX2_follow_7 : decode cX2_follow 7 = .ok (.aload_n 0, 1) := by decide +kernel
theorem dX2_follow_8 : decode cX2_follow 8 = .ok (.getfield 33, 3) := by decide +kernel
theorem dX2_follow_11 : decode cX2_follow 11 = .ok (.aload_n 3, 1) := by decide +kernel
theorem dX2_follow_12 : decode cX2_follow 12 = .ok (.invokevirtual 166, 3) := by decide +kernel
theorem dX2_follow_15 : decode cX2_follow 15 = .ok (.iconst 0, 1) := by decide +kernel
theorem dX2_follow_16 : decode cX2_follow 16 = .ok (.istore 4, 2) := by decide +kernel
theorem dX2_follow_18 : decode cX2_follow 18 = .ok (.iload 4, 2) := by decide +kernel
theorem dX2_follow_20 : decode cX2_follow 20 = .ok (.iload_n 2, 1) := by decide +kernel
theorem dX2_follow_21 : decode cX2_follow 21 = .ok (.if_icmp .ge 30, 3) := by decide +kernel
theorem dX2_follow_24 : decode cX2_follow 24 = .ok (.iload 4, 2) := by decide +kernel
theorem dX2_follow_26 : decode cX2_follow 26 = .ok (.aload_n 3, 1) := by decide +kernel
theorem dX2_follow_27 : decode cX2_follow 27 = .ok (.getfield 126, 3) := by decide +kernel
theorem dX2_follow_30 : decode cX2_follow 30 = .ok (.if_icmp .ge 21, 3) := by decide +kernel
theorem dX2_follow_33 : decode cX2_follow 33 = .ok (.aload_n 0, 1) := by decide +kernel
theorem dX2_follow_34 : decode cX2_follow 34 = .ok (.aload_n 3, 1) := by decide +kernel
theorem dX2_follow_35 : decode cX2_follow 35 = .ok (.aload_n 3, 1) := by decide +kernel
theorem dX2_follow_36 : decode cX2_follow 36 = .ok (.getfield 129, 3) := by decide +kernel
theorem dX2_follow_39 : decode cX2_follow 39 = .ok (.iload 4, 2) := by decide +kernel
theorem dX2_follow_41 : decode cX2_follow 41 = .ok (.iaload, 1) := by decide +kernel
theorem dX2_follow_42 : decode cX2_follow 42 = .ok (.invokevirtual 169, 3) := by decide +kernel
theorem dX2_follow_45 : decode cX2_follow 45 = .ok (.iinc 4 1, 3) := by decide +kernel
theorem dX2_follow_48 : decode cX2_follow 48 = .ok (.goto (-30), 3) := by decide +kernel
theorem dX2_follow_51 : decode cX2_follow 51 = .ok (.aload_n 0, 1) := by decide +kernel
theorem dX2_follow_52 : decode cX2_follow 52 = .ok (.getfield 33, 3) := by decide +kernel
theorem dX2_follow_55 : decode cX2_follow 55 = .ok (.areturn, 1) := by decide +kernel
theorem dX2_followAll_0 : decode cX2_followAll 0 = .ok (.aload_n 0, 1) := by decide +kernel
theorem dX2_followAll_1 : decode cX2_followAll 1 = .ok (.iload_n 1, 1) := by decide +kernel
theorem dX2_followAll_2 : decode cX2_followAll 2 = .ok (.bipush 10, 2) := by decide +kernel
theorem dX2_followAll_4 : decode cX2_followAll 4 = .ok (.invokevirtual 173, 3) := by decide +kernel
theorem dX2_followAll_7 : decode cX2_followAll 7 = .ok (.areturn, 1) := by decide +kernel
theorem dX2_sail_0 : decode cX2_sail 0 = .ok (.aload_n 0, 1) := by decide +kernel
theorem dX2_sail_1 : decode cX2_sail 1 = .ok (.iload_n 2, 1) := by decide +kernel
theorem dX2_sail_2 : decode cX2_sail 2 = .ok (.invokevirtual 116, 3) := by decide +kernel
theorem dX2_sail_5 : decode cX2_sail 5 = .ok (.ifCond .ne 4, 3) := by decide +kernel
theorem dX2_sail_8 : decode cX2_sail 8 = .ok (.return_, 1) := by decide +kernel
theorem dX2_sail_9 : decode cX2_sail 9 = .ok (.aload_n 0, 1) := by decide +kernel
theorem dX2_sail_10 : decode cX2_sail 10 = .ok (.getfield 26, 3) := by decide +kernel
theorem dX2_sail_13 : decode cX2_sail 13 = .ok (.iload_n 2, 1) := by decide +kernel
theorem dX2_sail_14 : decode cX2_sail 14 = .ok (.aaload, 1) := by decide +kernel
theorem dX2_sail_15 : decode cX2_sail 15 = .ok (.astore_n 3, 1) := by decide +kernel
theorem dX2_sail_16 : decode cX2_sail 16 = .ok (.bipush 24, 2) := by decide +kernel
theorem dX2_sail_18 : decode cX2_sail 18 = .ok (.aload_n 1, 1) := by decide +kernel
theorem dX2_sail_19 : decode cX2_sail 19 = .ok (.getfield 83, 3) := by decide +kernel
theorem dX2_sail_22 : decode cX2_sail 22 = .ok (.imul, 1) := by decide +kernel
theorem dX2_sail_23 : decode cX2_sail 23 = .ok (.istore 4, 2) := by decide +kernel
theorem dX2_sail_25 : decode cX2_sail 25 = .ok (.aload_n 0, 1) := by decide +kernel
theorem dX2_sail_26 : decode cX2_sail 26 = .ok (.getfield 33, 3) := by decide +kernel
theorem dX2_sail_29 : decode cX2_sail 29 = .ok (.getfield 135, 3) := by decide +kernel
theorem dX2_sail_32 : decode cX2_sail 32 = .ok (.istore 5, 2) := by decide +kernel
theorem dX2_sail_34 : decode cX2_sail 34 = .ok (.aload_n 0, 1) := by decide +kernel
theorem dX2_sail_35 : decode cX2_sail 35 = .ok (.getfield 33, 3) := by decide +kernel
theorem dX2_sail_38 : decode cX2_sail 38 = .ok (.iload 5, 2) := by decide +kernel
theorem dX2_sail_40 : decode cX2_sail 40 = .ok (.aload_n 0, 1) := by decide +kernel
theorem dX2_sail_41 : decode cX2_sail 41 = .ok (.aload_n 0, 1) := by decide +kernel
theorem dX2_sail_42 : decode cX2_sail 42 = .ok (.getfield 33, 3) := by decide +kernel
theorem dX2_sail_45 : decode cX2_sail 45 = .ok (.getfield 162, 3) := by decide +kernel
theorem dX2_sail_48 : decode cX2_sail 48 = .ok (.aload_n 3, 1) := by decide +kernel
theorem dX2_sail_49 : decode cX2_sail 49 = .ok (.getfield 98, 3) := by decide +kernel
theorem dX2_sail_52 : decode cX2_sail 52 = .ok (.invokevirtual 177, 3) := by decide +kernel
theorem dX2_sail_55 : decode cX2_sail 55 = .ok (.iload 4, 2) := by decide +kernel
theorem dX2_sail_57 : decode cX2_sail 57 = .ok (.invokestatic 149, 3) := by decide +kernel
theorem dX2_sail_60 : decode cX2_sail 60 = .ok (.iadd, 1) := by decide +kernel
theorem dX2_sail_61 : decode cX2_sail 61 = .ok (.putfield 180, 3) := by decide +kernel
theorem dX2_sail_64 : decode cX2_sail 64 = .ok (.aload_n 0, 1) := by decide +kernel
theorem dX2_sail_65 : decode cX2_sail 65 = .ok (.getfield 33, 3) := by decide +kernel
theorem dX2_sail_68 : decode cX2_sail 68 = .ok (.aload_n 3, 1) := by decide +kernel
theorem dX2_sail_69 : decode cX2_sail 69 = .ok (.getfield 107, 3) := by decide +kernel
theorem dX2_sail_72 : decode cX2_sail 72 = .ok (.aload_n 0, 1) := by decide +kernel
theorem dX2_sail_73 : decode cX2_sail 73 = .ok (.getfield 33, 3) := by decide +kernel
theorem dX2_sail_76 : decode cX2_sail 76 = .ok (.getfield 180, 3) := by decide +kernel
theorem dX2_sail_79 : decode cX2_sail 79 = .ok (.isub, 1) := by decide +kernel
theorem dX2_sail_80 : decode cX2_sail 80 = .ok (.putfield 183, 3) := by decide +kernel
theorem dX2_sail_83 : decode cX2_sail 83 = .ok (.aload_n 0, 1) := by decide +kernel
theorem dX2_sail_84 : decode cX2_sail 84 = .ok (.getfield 33, 3) := by decide +kernel
theorem dX2_sail_87 : decode cX2_sail 87 = .ok (.aload_n 0, 1) := by decide +kernel
theorem dX2_sail_88 : decode cX2_sail 88 = .ok (.getfield 33, 3) := by decide +kernel
theorem dX2_sail_91 : decode cX2_sail 91 = .ok (.getfield 180, 3) := by decide +kernel
theorem dX2_sail_94 : decode cX2_sail 94 = .ok (.aload_n 3, 1) := by decide +kernel
theorem dX2_sail_95 : decode cX2_sail 95 = .ok (.getfield 104, 3) := by decide +kernel
theorem dX2_sail_98 : decode cX2_sail 98 = .ok (.invokestatic 186, 3) := by decide +kernel
theorem dX2_sail_101 : decode cX2_sail 101 = .ok (.putfield 191, 3) := by decide +kernel
theorem dX2_sail_104 : decode cX2_sail 104 = .ok (.aload_n 0, 1) := by decide +kernel
theorem dX2_sail_105 : decode cX2_sail 105 = .ok (.getfield 33, 3) := by decide +kernel
theorem dX2_sail_108 : decode cX2_sail 108 = .ok (.getfield 191, 3) := by decide +kernel
theorem dX2_sail_111 : decode cX2_sail 111 = .ok (.iconst 2, 1) := by decide +kernel
theorem dX2_sail_112 : decode cX2_sail 112 = .ok (.iadd, 1) := by decide +kernel
theorem dX2_sail_113 : decode cX2_sail 113 = .ok (.istore 6, 2) := by decide +kernel
theorem dX2_sail_115 : decode cX2_sail 115 = .ok (.aload_n 0, 1) := by decide +kernel
theorem dX2_sail_116 : decode cX2_sail 116 = .ok (.getfield 33, 3) := by decide +kernel
theorem dX2_sail_119 : decode cX2_sail 119 = .ok (.iload 6, 2) := by decide +kernel
theorem dX2_sail_121 : decode cX2_sail 121 = .ok (.aload_n 0, 1) := by decide +kernel
theorem dX2_sail_122 : decode cX2_sail 122 = .ok (.aload_n 3, 1) := by decide +kernel
theorem dX2_sail_123 : decode cX2_sail 123 = .ok (.getfield 98, 3) := by decide +kernel
theorem dX2_sail_126 : decode cX2_sail 126 = .ok (.aload_n 3, 1) := by decide +kernel
theorem dX2_sail_127 : decode cX2_sail 127 = .ok (.getfield 101, 3) := by decide +kernel
theorem dX2_sail_130 : decode cX2_sail 130 = .ok (.invokevirtual 177, 3) := by decide +kernel
theorem dX2_sail_133 : decode cX2_sail 133 = .ok (.iload 4, 2) := by decide +kernel
theorem dX2_sail_135 : decode cX2_sail 135 = .ok (.invokestatic 149, 3) := by decide +kernel
theorem dX2_sail_138 : decode cX2_sail 138 = .ok (.iadd, 1) := by decide +kernel
theorem dX2_sail_139 : decode cX2_sail 139 = .ok (.iconst 2, 1) := by decide +kernel
theorem dX2_sail_140 : decode cX2_sail 140 = .ok (.iadd, 1) := by decide +kernel
theorem dX2_sail_141 : decode cX2_sail 141 = .ok (.putfield 135, 3) := by decide +kernel
theorem dX2_sail_144 : decode cX2_sail 144 = .ok (.aload_n 0, 1) := by decide +kernel
theorem dX2_sail_145 : decode cX2_sail 145 = .ok (.getfield 33, 3) := by decide +kernel
theorem dX2_sail_148 : decode cX2_sail 148 = .ok (.aload_n 3, 1) := by decide +kernel
theorem dX2_sail_149 : decode cX2_sail 149 = .ok (.getfield 101, 3) := by decide +kernel
theorem dX2_sail_152 : decode cX2_sail 152 = .ok (.putfield 162, 3) := by decide +kernel
theorem dX2_sail_155 : decode cX2_sail 155 = .ok (.aload_n 0, 1) := by decide +kernel
theorem dX2_sail_156 : decode cX2_sail 156 = .ok (.getfield 33, 3) := by decide +kernel
theorem dX2_sail_159 : decode cX2_sail 159 = .ok (.aload_n 0, 1) := by decide +kernel
theorem dX2_sail_160 : decode cX2_sail 160 = .ok (.getfield 33, 3) := by decide +kernel
theorem dX2_sail_163 : decode cX2_sail 163 = .ok (.getfield 135, 3) := by decide +kernel
theorem dX2_sail_166 : decode cX2_sail 166 = .ok (.iload 5, 2) := by decide +kernel
theorem dX2_sail_168 : decode cX2_sail 168 = .ok (.isub, 1) := by decide +kernel
theorem dX2_sail_169 : decode cX2_sail 169 = .ok (.putfield 194, 3) := by decide +kernel
theorem dX2_sail_172 : decode cX2_sail 172 = .ok (.aload_n 0, 1) := by decide +kernel
theorem dX2_sail_173 : decode cX2_sail 173 = .ok (.getfield 33, 3) := by decide +kernel
theorem dX2_sail_176 : decode cX2_sail 176 = .ok (.aload_n 3, 1) := by decide +kernel
theorem dX2_sail_177 : decode cX2_sail 177 = .ok (.invokevirtual 145, 3) := by decide +kernel
theorem dX2_sail_180 : decode cX2_sail 180 = .ok (.aload_n 0, 1) := by decide +kernel
theorem dX2_sail_181 : decode cX2_sail 181 = .ok (.getfield 33, 3) := by decide +kernel
theorem dX2_sail_184 : decode cX2_sail 184 = .ok (.getfield 194, 3) := by decide +kernel
theorem dX2_sail_187 : decode cX2_sail 187 = .ok (.aload_n 1, 1) := by decide +kernel
theorem dX2_sail_188 : decode cX2_sail 188 = .ok (.getfield 86, 3) := by decide +kernel
theorem dX2_sail_191 : decode cX2_sail 191 = .ok (.imul, 1) := by decide +kernel
theorem dX2_sail_192 : decode cX2_sail 192 = .ok (.isub, 1) := by decide +kernel
theorem dX2_sail_193 : decode cX2_sail 193 = .ok (.putfield 197, 3) := by decide +kernel
theorem dX2_sail_196 : decode cX2_sail 196 = .ok (.aload_n 0, 1) := by decide +kernel
theorem dX2_sail_197 : decode cX2_sail 197 = .ok (.getfield 33, 3) := by decide +kernel
theorem dX2_sail_200 : decode cX2_sail 200 = .ok (.dup, 1) := by decide +kernel
theorem dX2_sail_201 : decode cX2_sail 201 = .ok (.getfield 159, 3) := by decide +kernel
theorem dX2_sail_204 : decode cX2_sail 204 = .ok (.aload_n 0, 1) := by decide +kernel
theorem dX2_sail_205 : decode cX2_sail 205 = .ok (.getfield 33, 3) := by decide +kernel
theorem dX2_sail_208 : decode cX2_sail 208 = .ok (.getfield 197, 3) := by decide +kernel
theorem dX2_sail_211 : decode cX2_sail 211 = .ok (.iadd, 1) := by decide +kernel
theorem dX2_sail_212 : decode cX2_sail 212 = .ok (.putfield 159, 3) := by decide +kernel
theorem dX2_sail_215 : decode cX2_sail 215 = .ok (.return_, 1) := by decide +kernel
theorem dX2_hindrance_0 : decode cX2_hindrance 0 = .ok (.aload_n 0, 1) := by decide +kernel
theorem dX2_hindrance_1 : decode cX2_hindrance 1 = .ok (.iload_n 1, 1) := by decide +kernel
theorem dX2_hindrance_2 : decode cX2_hindrance 2 = .ok (.bipush 10, 2) := by decide +kernel
theorem dX2_hindrance_4 : decode cX2_hindrance 4 = .ok (.invokevirtual 173, 3) := by decide +kernel
theorem dX2_hindrance_7 : decode cX2_hindrance 7 = .ok (.pop, 1) := by decide +kernel
theorem dX2_hindrance_8 : decode cX2_hindrance 8 = .ok (.aload_n 0, 1) := by decide +kernel
theorem dX2_hindrance_9 : decode cX2_hindrance 9 = .ok (.aload_n 0, 1) := by decide +kernel
theorem dX2_hindrance_10 : decode cX2_hindrance 10 = .ok (.getfield 20, 3) := by decide +kernel
theorem dX2_hindrance_13 : decode cX2_hindrance 13 = .ok (.iload_n 1, 1) := by decide +kernel
theorem dX2_hindrance_14 : decode cX2_hindrance 14 = .ok (.aaload, 1) := by decide +kernel
theorem dX2_hindrance_15 : decode cX2_hindrance 15 = .ok (.iload_n 2, 1) := by decide +kernel
theorem dX2_hindrance_16 : decode cX2_hindrance 16 = .ok (.invokevirtual 169, 3) := by decide +kernel
theorem dX2_hindrance_19 : decode cX2_hindrance 19 = .ok (.aload_n 0, 1) := by decide +kernel
theorem dX2_hindrance_20 : decode cX2_hindrance 20 = .ok (.getfield 26, 3) := by decide +kernel
theorem dX2_hindrance_23 : decode cX2_hindrance 23 = .ok (.iload_n 2, 1) := by decide +kernel
theorem dX2_hindrance_24 : decode cX2_hindrance 24 = .ok (.aaload, 1) := by decide +kernel
theorem dX2_hindrance_25 : decode cX2_hindrance 25 = .ok (.getfield 95, 3) := by decide +kernel
theorem dX2_hindrance_28 : decode cX2_hindrance 28 = .ok (.aload_n 0, 1) := by decide +kernel
theorem dX2_hindrance_29 : decode cX2_hindrance 29 = .ok (.getfield 20, 3) := by decide +kernel
theorem dX2_hindrance_32 : decode cX2_hindrance 32 = .ok (.iload_n 1, 1) := by decide +kernel
theorem dX2_hindrance_33 : decode cX2_hindrance 33 = .ok (.aaload, 1) := by decide +kernel
theorem dX2_hindrance_34 : decode cX2_hindrance 34 = .ok (.getfield 80, 3) := by decide +kernel
theorem dX2_hindrance_37 : decode cX2_hindrance 37 = .ok (.if_icmp .le 5, 3) := by decide +kernel
theorem dX2_hindrance_40 : decode cX2_hindrance 40 = .ok (.iconst 1, 1) := by decide +kernel
theorem dX2_hindrance_41 : decode cX2_hindrance 41 = .ok (.ireturn, 1) := by decide +kernel
theorem dX2_hindrance_42 : decode cX2_hindrance 42 = .ok (.aload_n 0, 1) := by decide +kernel
theorem dX2_hindrance_43 : decode cX2_hindrance 43 = .ok (.getfield 33, 3) := by decide +kernel
theorem dX2_hindrance_46 : decode cX2_hindrance 46 = .ok (.getfield 183, 3) := by decide +kernel
theorem dX2_hindrance_49 : decode cX2_hindrance 49 = .ok (.ifCond .ge 7, 3) := by decide +kernel
theorem dX2_hindrance_52 : decode cX2_hindrance 52 = .ok (.iconst 2, 1) := by decide +kernel
theorem dX2_hindrance_53 : decode cX2_hindrance 53 = .ok (.goto 4, 3) := by decide +kernel
theorem dX2_hindrance_56 : decode cX2_hindrance 56 = .ok (.iconst 0, 1) := by decide +kernel
theorem dX2_hindrance_57 : decode cX2_hindrance 57 = .ok (.ireturn, 1) := by decide +kernel
theorem dX2_fixturesInTime_0 : decode cX2_fixturesInTime 0 = .ok (.aload_n 0, 1) := by decide +kernel
theorem dX2_fixturesInTime_1 : decode cX2_fixturesInTime 1 = .ok (.getfield 20, 3) := by decide +kernel
theorem dX2_fixturesInTime_4 : decode cX2_fixturesInTime 4 = .ok (.iload_n 1, 1) := by decide +kernel
theorem dX2_fixturesInTime_5 : decode cX2_fixturesInTime 5 = .ok (.aaload, 1) := by decide +kernel
theorem dX2_fixturesInTime_6 : decode cX2_fixturesInTime 6 = .ok (.astore_n 2, 1) := by decide +kernel
theorem dX2_fixturesInTime_7 : decode cX2_fixturesInTime 7 = .ok (.aload_n 0, 1) := by decide +kernel
theorem dX2_fixturesInTime_8 : decode cX2_fixturesInTime 8 = .ok (.getfield 33, 3) := by decide +kernel
theorem dX2_fixturesInTime_11 : decode cX2_fixturesInTime 11 = .ok (.aload_n 2, 1) := by decide +kernel
theorem dX2_fixturesInTime_12 : decode cX2_fixturesInTime 12 = .ok (.invokevirtual 166, 3) := by decide +kernel
theorem dX2_fixturesInTime_15 : decode cX2_fixturesInTime 15 = .ok (.iconst 0, 1) := by decide +kernel
theorem dX2_fixturesInTime_16 : decode cX2_fixturesInTime 16 = .ok (.istore_n 3, 1) := by decide +kernel
theorem dX2_fixturesInTime_17 : decode cX2_fixturesInTime 17 = .ok (.iload_n 3, 1) := by decide +kernel
theorem dX2_fixturesInTime_18 : decode cX2_fixturesInTime 18 = .ok (.aload_n 2, 1) := by decide +kernel
theorem dX2_fixturesInTime_19 : decode cX2_fixturesInTime 19 = .ok (.getfield 126, 3) := by decide +kernel
theorem dX2_fixturesInTime_22 : decode cX2_fixturesInTime 22 = .ok (.if_icmp .ge 32, 3) := by decide +kernel
theorem dX2_fixturesInTime_25 : decode cX2_fixturesInTime 25 = .ok (.aload_n 0, 1) := by decide +kernel
theorem dX2_fixturesInTime_26 : decode cX2_fixturesInTime 26 = .ok (.aload_n 2, 1) := by decide +kernel
theorem dX2_fixturesInTime_27 : decode cX2_fixturesInTime 27 = .ok (.aload_n 2, 1) := by decide +kernel
theorem dX2_fixturesInTime_28 : decode cX2_fixturesInTime 28 = .ok (.getfield 129, 3) := by decide +kernel
theorem dX2_fixturesInTime_31 : decode cX2_fixturesInTime 31 = .ok (.iload_n 3, 1) := by decide +kernel
theorem dX2_fixturesInTime_32 : decode cX2_fixturesInTime 32 = .ok (.iaload, 1) := by decide +kernel
theorem dX2_fixturesInTime_33 : decode cX2_fixturesInTime 33 = .ok (.invokevirtual 169, 3) := by decide +kernel
theorem dX2_fixturesInTime_36 : decode cX2_fixturesInTime 36 = .ok (.aload_n 0, 1) := by decide +kernel
theorem dX2_fixturesInTime_37 : decode cX2_fixturesInTime 37 = .ok (.getfield 33, 3) := by decide +kernel
theorem dX2_fixturesInTime_40 : decode cX2_fixturesInTime 40 = .ok (.getfield 183, 3) := by decide +kernel
theorem dX2_fixturesInTime_43 : decode cX2_fixturesInTime 43 = .ok (.ifCond .ge 5, 3) := by decide +kernel
theorem dX2_fixturesInTime_46 : decode cX2_fixturesInTime 46 = .ok (.iload_n 3, 1) := by decide +kernel
theorem dX2_fixturesInTime_47 : decode cX2_fixturesInTime 47 = .ok (.ireturn, 1) := by decide +kernel
theorem dX2_fixturesInTime_48 : decode cX2_fixturesInTime 48 = .ok (.iinc 3 1, 3) := by decide +kernel
theorem dX2_fixturesInTime_51 : decode cX2_fixturesInTime 51 = .ok (.goto (-34), 3) := by decide +kernel
theorem dX2_fixturesInTime_54 : decode cX2_fixturesInTime 54 = .ok (.aload_n 2, 1) := by decide +kernel
theorem dX2_fixturesInTime_55 : decode cX2_fixturesInTime 55 = .ok (.getfield 126, 3) := by decide +kernel
theorem dX2_fixturesInTime_58 : decode cX2_fixturesInTime 58 = .ok (.ireturn, 1) := by decide +kernel
theorem dX2_slackOf_0 : decode cX2_slackOf 0 = .ok (.aload_n 0, 1) := by decide +kernel
theorem dX2_slackOf_1 : decode cX2_slackOf 1 = .ok (.getfield 20, 3) := by decide +kernel
theorem dX2_slackOf_4 : decode cX2_slackOf 4 = .ok (.iload_n 1, 1) := by decide +kernel
theorem dX2_slackOf_5 : decode cX2_slackOf 5 = .ok (.aaload, 1) := by decide +kernel
theorem dX2_slackOf_6 : decode cX2_slackOf 6 = .ok (.astore_n 2, 1) := by decide +kernel
theorem dX2_slackOf_7 : decode cX2_slackOf 7 = .ok (.ldc 200, 2) := by decide +kernel
theorem dX2_slackOf_9 : decode cX2_slackOf 9 = .ok (.istore_n 3, 1) := by decide +kernel
theorem dX2_slackOf_10 : decode cX2_slackOf 10 = .ok (.iconst 0, 1) := by decide +kernel
theorem dX2_slackOf_11 : decode cX2_slackOf 11 = .ok (.istore 4, 2) := by decide +kernel
theorem dX2_slackOf_13 : decode cX2_slackOf 13 = .ok (.aload_n 0, 1) := by decide +kernel
theorem dX2_slackOf_14 : decode cX2_slackOf 14 = .ok (.getfield 33, 3) := by decide +kernel
theorem dX2_slackOf_17 : decode cX2_slackOf 17 = .ok (.aload_n 2, 1) := by decide +kernel
theorem dX2_slackOf_18 : decode cX2_slackOf 18 = .ok (.invokevirtual 166, 3) := by decide +kernel
theorem dX2_slackOf_21 : decode cX2_slackOf 21 = .ok (.iconst 0, 1) := by decide +kernel
theorem dX2_slackOf_22 : decode cX2_slackOf 22 = .ok (.istore 5, 2) := by decide +kernel
theorem dX2_slackOf_24 : decode cX2_slackOf 24 = .ok (.iload 5, 2) := by decide +kernel
theorem dX2_slackOf_26 : decode cX2_slackOf 26 = .ok (.aload_n 2, 1) := by decide +kernel
theorem dX2_slackOf_27 : decode cX2_slackOf 27 = .ok (.getfield 126, 3) := by decide +kernel
theorem dX2_slackOf_30 : decode cX2_slackOf 30 = .ok (.if_icmp .ge 70, 3) := by decide +kernel
theorem dX2_slackOf_33 : decode cX2_slackOf 33 = .ok (.aload_n 0, 1) := by decide +kernel
theorem dX2_slackOf_34 : decode cX2_slackOf 34 = .ok (.aload_n 2, 1) := by decide +kernel
theorem dX2_slackOf_35 : decode cX2_slackOf 35 = .ok (.aload_n 2, 1) := by decide +kernel
theorem dX2_slackOf_36 : decode cX2_slackOf 36 = .ok (.getfield 129, 3) := by decide +kernel
theorem dX2_slackOf_39 : decode cX2_slackOf 39 = .ok (.iload 5, 2) := by decide +kernel
theorem dX2_slackOf_41 : decode cX2_slackOf 41 = .ok (.iaload, 1) := by decide +kernel
theorem dX2_slackOf_42 : decode cX2_slackOf 42 = .ok (.invokevirtual 169, 3) := by decide +kernel
theorem dX2_slackOf_45 : decode cX2_slackOf 45 = .ok (.aload_n 0, 1) := by decide +kernel
theorem dX2_slackOf_46 : decode cX2_slackOf 46 = .ok (.getfield 33, 3) := by decide +kernel
theorem dX2_slackOf_49 : decode cX2_slackOf 49 = .ok (.getfield 183, 3) := by decide +kernel
theorem dX2_slackOf_52 : decode cX2_slackOf 52 = .ok (.iload 4, 2) := by decide +kernel
theorem dX2_slackOf_54 : decode cX2_slackOf 54 = .ok (.iadd, 1) := by decide +kernel
theorem dX2_slackOf_55 : decode cX2_slackOf 55 = .ok (.istore 6, 2) := by decide +kernel
theorem dX2_slackOf_57 : decode cX2_slackOf 57 = .ok (.iload 5, 2) := by decide +kernel
theorem dX2_slackOf_59 : decode cX2_slackOf 59 = .ok (.ifCond .ne 8, 3) := by decide +kernel
theorem dX2_slackOf_62 : decode cX2_slackOf 62 = .ok (.iload 6, 2) := by decide +kernel
theorem dX2_slackOf_64 : decode cX2_slackOf 64 = .ok (.goto 9, 3) := by decide +kernel
theorem dX2_slackOf_67 : decode cX2_slackOf 67 = .ok (.iload_n 3, 1) := by decide +kernel
theorem dX2_slackOf_68 : decode cX2_slackOf 68 = .ok (.iload 6, 2) := by decide +kernel
theorem dX2_slackOf_70 : decode cX2_slackOf 70 = .ok (.invokestatic 201, 3) := by decide +kernel
theorem dX2_slackOf_73 : decode cX2_slackOf 73 = .ok (.istore_n 3, 1) := by decide +kernel
theorem dX2_slackOf_74 : decode cX2_slackOf 74 = .ok (.iload 4, 2) := by decide +kernel
theorem dX2_slackOf_76 : decode cX2_slackOf 76 = .ok (.aload_n 0, 1) := by decide +kernel
theorem dX2_slackOf_77 : decode cX2_slackOf 77 = .ok (.getfield 33, 3) := by decide +kernel
theorem dX2_slackOf_80 : decode cX2_slackOf 80 = .ok (.getfield 191, 3) := by decide +kernel
theorem dX2_slackOf_83 : decode cX2_slackOf 83 = .ok (.aload_n 0, 1) := by decide +kernel
theorem dX2_slackOf_84 : decode cX2_slackOf 84 = .ok (.getfield 33, 3) := by decide +kernel
theorem dX2_slackOf_87 : decode cX2_slackOf 87 = .ok (.getfield 180, 3) := by decide +kernel
theorem dX2_slackOf_90 : decode cX2_slackOf 90 = .ok (.isub, 1) := by decide +kernel
theorem dX2_slackOf_91 : decode cX2_slackOf 91 = .ok (.iadd, 1) := by decide +kernel
theorem dX2_slackOf_92 : decode cX2_slackOf 92 = .ok (.istore 4, 2) := by decide +kernel
theorem dX2_slackOf_94 : decode cX2_slackOf 94 = .ok (.iinc 5 1, 3) := by decide +kernel
theorem dX2_slackOf_97 : decode cX2_slackOf 97 = .ok (.goto (-73), 3) := by decide +kernel
theorem dX2_slackOf_100 : decode cX2_slackOf 100 = .ok (.iload_n 3, 1) := by decide +kernel
theorem dX2_slackOf_101 : decode cX2_slackOf 101 = .ok (.ireturn, 1) := by decide +kernel
theorem dX2_choose_0 : decode cX2_choose 0 = .ok (.iconst 0, 1) := by decide +kernel
theorem dX2_choose_1 : decode cX2_choose 1 = .ok (.istore 5, 2) := by decide +kernel
theorem dX2_choose_3 : decode cX2_choose 3 = .ok (.iload_n 1, 1) := by decide +kernel
theorem dX2_choose_4 : decode cX2_choose 4 = .ok (.istore 6, 2) := by decide +kernel
theorem dX2_choose_6 : decode cX2_choose 6 = .ok (.iload 6, 2) := by decide +kernel
theorem dX2_choose_8 : decode cX2_choose 8 = .ok (.iload_n 2, 1) := by decide +kernel
theorem dX2_choose_9 : decode cX2_choose 9 = .ok (.if_icmp .ge 97, 3) := by decide +kernel
theorem dX2_choose_12 : decode cX2_choose 12 = .ok (.iload_n 3, 1) := by decide +kernel
theorem dX2_choose_13 : decode cX2_choose 13 = .ok (.istore 7, 2) := by decide +kernel
theorem dX2_choose_15 : decode cX2_choose 15 = .ok (.iload 7, 2) := by decide +kernel
theorem dX2_choose_17 : decode cX2_choose 17 = .ok (.iload 4, 2) := by decide +kernel
theorem dX2_choose_19 : decode cX2_choose 19 = .ok (.if_icmp .ge 81, 3) := by decide +kernel
theorem dX2_choose_22 : decode cX2_choose 22 = .ok (.aload_n 0, 1) := by decide +kernel
theorem dX2_choose_23 : decode cX2_choose 23 = .ok (.getfield 26, 3) := by decide +kernel
theorem dX2_choose_26 : decode cX2_choose 26 = .ok (.iload 7, 2) := by decide +kernel
theorem dX2_choose_28 : decode cX2_choose 28 = .ok (.aaload, 1) := by decide +kernel
theorem dX2_choose_29 : decode cX2_choose 29 = .ok (.getfield 119, 3) := by decide +kernel
theorem dX2_choose_32 : decode cX2_choose 32 = .ok (.ifCond .ne 62, 3) := by decide +kernel
theorem dX2_choose_35 : decode cX2_choose 35 = .ok (.aload_n 0, 1) := by decide +kernel
theorem dX2_choose_36 : decode cX2_choose 36 = .ok (.iload 6, 2) := by decide +kernel
theorem dX2_choose_38 : decode cX2_choose 38 = .ok (.iload 7, 2) := by decide +kernel
theorem dX2_choose_40 : decode cX2_choose 40 = .ok (.invokevirtual 122, 3) := by decide +kernel
theorem dX2_choose_43 : decode cX2_choose 43 = .ok (.ifCond .eq 6, 3) := by decide +kernel
theorem dX2_choose_46 : decode cX2_choose 46 = .ok (.goto 48, 3) := by decide +kernel
theorem dX2_choose_49 : decode cX2_choose 49 = .ok (.iload 5, 2) := by decide +kernel
theorem dX2_choose_51 : decode cX2_choose 51 = .ok (.ifCond .eq 17, 3) := by decide +kernel
theorem dX2_choose_54 : decode cX2_choose 54 = .ok (.aload_n 0, 1) := by decide +kernel
theorem dX2_choose_55 : decode cX2_choose 55 = .ok (.getfield 33, 3) := by decide +kernel
theorem dX2_choose_58 : decode cX2_choose 58 = .ok (.getfield 197, 3) := by decide +kernel
theorem dX2_choose_61 : decode cX2_choose 61 = .ok (.aload_n 0, 1) := by decide +kernel
theorem dX2_choose_62 : decode cX2_choose 62 = .ok (.getfield 204, 3) := by decide +kernel
theorem dX2_choose_65 : decode cX2_choose 65 = .ok (.if_icmp .le 29, 3) := by decide +kernel
theorem dX2_choose_68 : decode cX2_choose 68 = .ok (.iconst 1, 1) := by decide +kernel
theorem dX2_choose_69 : decode cX2_choose 69 = .ok (.istore 5, 2) := by decide +kernel
theorem dX2_choose_71 : decode cX2_choose 71 = .ok (.aload_n 0, 1) := by decide +kernel
theorem dX2_choose_72 : decode cX2_choose 72 = .ok (.iload 6, 2) := by decide +kernel
theorem dX2_choose_74 : decode cX2_choose 74 = .ok (.putfield 207, 3) := by decide +kernel
theorem dX2_choose_77 : decode cX2_choose 77 = .ok (.aload_n 0, 1) := by decide +kernel
theorem dX2_choose_78 : decode cX2_choose 78 = .ok (.iload 7, 2) := by decide +kernel
theorem dX2_choose_80 : decode cX2_choose 80 = .ok (.putfield 210, 3) := by decide +kernel
theorem dX2_choose_83 : decode cX2_choose 83 = .ok (.aload_n 0, 1) := by decide +kernel
theorem dX2_choose_84 : decode cX2_choose 84 = .ok (.aload_n 0, 1) := by decide +kernel
theorem dX2_choose_85 : decode cX2_choose 85 = .ok (.getfield 33, 3) := by decide +kernel
theorem dX2_choose_88 : decode cX2_choose 88 = .ok (.getfield 197, 3) := by decide +kernel
theorem dX2_choose_91 : decode cX2_choose 91 = .ok (.putfield 204, 3) := by decide +kernel
theorem dX2_choose_94 : decode cX2_choose 94 = .ok (.iinc 7 1, 3) := by decide +kernel
theorem dX2_choose_97 : decode cX2_choose 97 = .ok (.goto (-82), 3) := by decide +kernel
theorem dX2_choose_100 : decode cX2_choose 100 = .ok (.iinc 6 1, 3) := by decide +kernel
theorem dX2_choose_103 : decode cX2_choose 103 = .ok (.goto (-97), 3) := by decide +kernel
theorem dX2_choose_106 : decode cX2_choose 106 = .ok (.iload 5, 2) := by decide +kernel
theorem dX2_choose_108 : decode cX2_choose 108 = .ok (.ireturn, 1) := by decide +kernel
theorem dX2_chooseGainful_0 : decode cX2_chooseGainful 0 = .ok (.aload_n 0, 1) := by decide +kernel
theorem dX2_chooseGainful_1 : decode cX2_chooseGainful 1 = .ok (.iconst 0, 1) := by decide +kernel
theorem dX2_chooseGainful_2 : decode cX2_chooseGainful 2 = .ok (.aload_n 0, 1) := by decide +kernel
theorem dX2_chooseGainful_3 : decode cX2_chooseGainful 3 = .ok (.getfield 52, 3) := by decide +kernel
theorem dX2_chooseGainful_6 : decode cX2_chooseGainful 6 = .ok (.iconst 0, 1) := by decide +kernel
theorem dX2_chooseGainful_7 : decode cX2_chooseGainful 7 = .ok (.aload_n 0, 1) := by decide +kernel
theorem dX2_chooseGainful_8 : decode cX2_chooseGainful 8 = .ok (.getfield 56, 3) := by decide +kernel
theorem dX2_chooseGainful_11 : decode cX2_chooseGainful 11 = .ok (.invokevirtual 213, 3) := by decide +kernel
theorem dX2_chooseGainful_14 : decode cX2_chooseGainful 14 = .ok (.ifCond .eq 14, 3) := by decide +kernel
theorem dX2_chooseGainful_17 : decode cX2_chooseGainful 17 = .ok (.aload_n 0, 1) := by decide +kernel
theorem dX2_chooseGainful_18 : decode cX2_chooseGainful 18 = .ok (.getfield 204, 3) := by decide +kernel
theorem dX2_chooseGainful_21 : decode cX2_chooseGainful 21 = .ok (.ifCond .le 7, 3) := by decide +kernel
theorem dX2_chooseGainful_24 : decode cX2_chooseGainful 24 = .ok (.iconst 1, 1) := by decide +kernel
theorem dX2_chooseGainful_25 : decode cX2_chooseGainful 25 = .ok (.goto 4, 3) := by decide +kernel
theorem dX2_chooseGainful_28 : decode cX2_chooseGainful 28 = .ok (.iconst 0, 1) := by decide +kernel
theorem dX2_chooseGainful_29 : decode cX2_chooseGainful 29 = .ok (.ireturn, 1) := by decide +kernel
theorem dX2_cargoesThatAre_0 : decode cX2_cargoesThatAre 0 = .ok (.iconst 0, 1) := by decide +kernel
theorem dX2_cargoesThatAre_1 : decode cX2_cargoesThatAre 1 = .ok (.istore_n 2, 1) := by decide +kernel
theorem dX2_cargoesThatAre_2 : decode cX2_cargoesThatAre 2 = .ok (.iconst 0, 1) := by decide +kernel
theorem dX2_cargoesThatAre_3 : decode cX2_cargoesThatAre 3 = .ok (.istore_n 3, 1) := by decide +kernel
theorem dX2_cargoesThatAre_4 : decode cX2_cargoesThatAre 4 = .ok (.iload_n 3, 1) := by decide +kernel
theorem dX2_cargoesThatAre_5 : decode cX2_cargoesThatAre 5 = .ok (.aload_n 0, 1) := by decide +kernel
theorem dX2_cargoesThatAre_6 : decode cX2_cargoesThatAre 6 = .ok (.getfield 56, 3) := by decide +kernel
theorem dX2_cargoesThatAre_9 : decode cX2_cargoesThatAre 9 = .ok (.if_icmp .ge 25, 3) := by decide +kernel
theorem dX2_cargoesThatAre_12 : decode cX2_cargoesThatAre 12 = .ok (.aload_n 0, 1) := by decide +kernel
theorem dX2_cargoesThatAre_13 : decode cX2_cargoesThatAre 13 = .ok (.getfield 26, 3) := by decide +kernel
theorem dX2_cargoesThatAre_16 : decode cX2_cargoesThatAre 16 = .ok (.iload_n 3, 1) := by decide +kernel
theorem dX2_cargoesThatAre_17 : decode cX2_cargoesThatAre 17 = .ok (.aaload, 1) := by decide +kernel
theorem dX2_cargoesThatAre_18 : decode cX2_cargoesThatAre 18 = .ok (.getfield 119, 3) := by decide +kernel
theorem dX2_cargoesThatAre_21 : decode cX2_cargoesThatAre 21 = .ok (.iload_n 1, 1) := by decide +kernel
theorem dX2_cargoesThatAre_22 : decode cX2_cargoesThatAre 22 = .ok (.if_icmp .ne 6, 3) := by decide +kernel
theorem dX2_cargoesThatAre_25 : decode cX2_cargoesThatAre 25 = .ok (.iinc 2 1, 3) := by decide +kernel
theorem dX2_cargoesThatAre_28 : decode cX2_cargoesThatAre 28 = .ok (.iinc 3 1, 3) := by decide +kernel
theorem dX2_cargoesThatAre_31 : decode cX2_cargoesThatAre 31 = .ok (.goto (-27), 3) := by decide +kernel
theorem dX2_cargoesThatAre_34 : decode cX2_cargoesThatAre 34 = .ok (.iload_n 2, 1) := by decide +kernel
theorem dX2_cargoesThatAre_35 : decode cX2_cargoesThatAre 35 = .ok (.ireturn, 1) := by decide +kernel
theorem dX2_openCargoes_0 : decode cX2_openCargoes 0 = .ok (.iconst 0, 1) := by decide +kernel
theorem dX2_openCargoes_1 : decode cX2_openCargoes 1 = .ok (.istore_n 1, 1) := by decide +kernel
theorem dX2_openCargoes_2 : decode cX2_openCargoes 2 = .ok (.iconst 0, 1) := by decide +kernel
theorem dX2_openCargoes_3 : decode cX2_openCargoes 3 = .ok (.istore_n 2, 1) := by decide +kernel
theorem dX2_openCargoes_4 : decode cX2_openCargoes 4 = .ok (.iload_n 2, 1) := by decide +kernel
theorem dX2_openCargoes_5 : decode cX2_openCargoes 5 = .ok (.aload_n 0, 1) := by decide +kernel
theorem dX2_openCargoes_6 : decode cX2_openCargoes 6 = .ok (.getfield 56, 3) := by decide +kernel
theorem dX2_openCargoes_9 : decode cX2_openCargoes 9 = .ok (.if_icmp .ge 27, 3) := by decide +kernel
theorem dX2_openCargoes_12 : decode cX2_openCargoes 12 = .ok (.aload_n 0, 1) := by decide +kernel
theorem dX2_openCargoes_13 : decode cX2_openCargoes 13 = .ok (.getfield 26, 3) := by decide +kernel
theorem dX2_openCargoes_16 : decode cX2_openCargoes 16 = .ok (.iload_n 2, 1) := by decide +kernel
theorem dX2_openCargoes_17 : decode cX2_openCargoes 17 = .ok (.aaload, 1) := by decide +kernel
theorem dX2_openCargoes_18 : decode cX2_openCargoes 18 = .ok (.getfield 119, 3) := by decide +kernel
theorem dX2_openCargoes_21 : decode cX2_openCargoes 21 = .ok (.ifCond .ne 9, 3) := by decide +kernel
theorem dX2_openCargoes_24 : decode cX2_openCargoes 24 = .ok (.iload_n 1, 1) := by decide +kernel
theorem dX2_openCargoes_25 : decode cX2_openCargoes 25 = .ok (.iconst 1, 1) := by decide +kernel
theorem dX2_openCargoes_26 : decode cX2_openCargoes 26 = .ok (.iload_n 2, 1) := by decide +kernel
theorem dX2_openCargoes_27 : decode cX2_openCargoes 27 = .ok (.ishl, 1) := by decide +kernel
theorem dX2_openCargoes_28 : decode cX2_openCargoes 28 = .ok (.ior, 1) := by decide +kernel
theorem dX2_openCargoes_29 : decode cX2_openCargoes 29 = .ok (.istore_n 1, 1) := by decide +kernel
theorem dX2_openCargoes_30 : decode cX2_openCargoes 30 = .ok (.iinc 2 1, 3) := by decide +kernel
theorem dX2_openCargoes_33 : decode cX2_openCargoes 33 = .ok (.goto (-29), 3) := by decide +kernel
theorem dX2_openCargoes_36 : decode cX2_openCargoes 36 = .ok (.iload_n 1, 1) := by decide +kernel
theorem dX2_openCargoes_37 : decode cX2_openCargoes 37 = .ok (.ireturn, 1) := by decide +kernel
theorem dX2_pairOf_0 : decode cX2_pairOf 0 = .ok (.aload_n 0, 1) := by decide +kernel
theorem dX2_pairOf_1 : decode cX2_pairOf 1 = .ok (.iload_n 1, 1) := by decide +kernel
theorem dX2_pairOf_2 : decode cX2_pairOf 2 = .ok (.invokevirtual 116, 3) := by decide +kernel
theorem dX2_pairOf_5 : decode cX2_pairOf 5 = .ok (.ifCond .eq 30, 3) := by decide +kernel
theorem dX2_pairOf_8 : decode cX2_pairOf 8 = .ok (.lconst 1, 1) := by decide +kernel
theorem dX2_pairOf_9 : decode cX2_pairOf 9 = .ok (.bipush 8, 2) := by decide +kernel
theorem dX2_pairOf_11 : decode cX2_pairOf 11 = .ok (.aload_n 0, 1) := by decide +kernel
theorem dX2_pairOf_12 : decode cX2_pairOf 12 = .ok (.getfield 26, 3) := by decide +kernel
theorem dX2_pairOf_15 : decode cX2_pairOf 15 = .ok (.iload_n 1, 1) := by decide +kernel
theorem dX2_pairOf_16 : decode cX2_pairOf 16 = .ok (.aaload, 1) := by decide +kernel
theorem dX2_pairOf_17 : decode cX2_pairOf 17 = .ok (.getfield 98, 3) := by decide +kernel
theorem dX2_pairOf_20 : decode cX2_pairOf 20 = .ok (.imul, 1) := by decide +kernel
theorem dX2_pairOf_21 : decode cX2_pairOf 21 = .ok (.aload_n 0, 1) := by decide +kernel
theorem dX2_pairOf_22 : decode cX2_pairOf 22 = .ok (.getfield 26, 3) := by decide +kernel
theorem dX2_pairOf_25 : decode cX2_pairOf 25 = .ok (.iload_n 1, 1) := by decide +kernel
theorem dX2_pairOf_26 : decode cX2_pairOf 26 = .ok (.aaload, 1) := by decide +kernel
theorem dX2_pairOf_27 : decode cX2_pairOf 27 = .ok (.getfield 101, 3) := by decide +kernel
theorem dX2_pairOf_30 : decode cX2_pairOf 30 = .ok (.iadd, 1) := by decide +kernel
theorem dX2_pairOf_31 : decode cX2_pairOf 31 = .ok (.lshl, 1) := by decide +kernel
theorem dX2_pairOf_32 : decode cX2_pairOf 32 = .ok (.goto 4, 3) := by decide +kernel
theorem dX2_pairOf_35 : decode cX2_pairOf 35 = .ok (.lconst 0, 1) := by decide +kernel
theorem dX2_pairOf_36 : decode cX2_pairOf 36 = .ok (.lreturn, 1) := by decide +kernel
theorem dX2_accountsTogether_0 : decode cX2_accountsTogether 0 = .ok (.iconst 0, 1) := by decide +kernel
theorem dX2_accountsTogether_1 : decode cX2_accountsTogether 1 = .ok (.istore_n 1, 1) := by decide +kernel
theorem dX2_accountsTogether_2 : decode cX2_accountsTogether 2 = .ok (.iconst 0, 1) := by decide +kernel
theorem dX2_accountsTogether_3 : decode cX2_accountsTogether 3 = .ok (.istore_n 2, 1) := by decide +kernel
theorem dX2_accountsTogether_4 : decode cX2_accountsTogether 4 = .ok (.iload_n 2, 1) := by decide +kernel
theorem dX2_accountsTogether_5 : decode cX2_accountsTogether 5 = .ok (.aload_n 0, 1) := by decide +kernel
theorem dX2_accountsTogether_6 : decode cX2_accountsTogether 6 = .ok (.getfield 52, 3) := by decide +kernel
theorem dX2_accountsTogether_9 : decode cX2_accountsTogether 9 = .ok (.if_icmp .ge 21, 3) := by decide +kernel
theorem dX2_accountsTogether_12 : decode cX2_accountsTogether 12 = .ok (.iload_n 1, 1) := by decide +kernel
theorem dX2_accountsTogether_13 : decode cX2_accountsTogether 13 = .ok (.aload_n 0, 1) := by decide +kernel
theorem dX2_accountsTogether_14 : decode cX2_accountsTogether 14 = .ok (.getfield 20, 3) := by decide +kernel
theorem dX2_accountsTogether_17 : decode cX2_accountsTogether 17 = .ok (.iload_n 2, 1) := by decide +kernel
theorem dX2_accountsTogether_18 : decode cX2_accountsTogether 18 = .ok (.aaload, 1) := by decide +kernel
theorem dX2_accountsTogether_19 : decode cX2_accountsTogether 19 = .ok (.getfield 152, 3) := by decide +kernel
theorem dX2_accountsTogether_22 : decode cX2_accountsTogether 22 = .ok (.iadd, 1) := by decide +kernel
theorem dX2_accountsTogether_23 : decode cX2_accountsTogether 23 = .ok (.istore_n 1, 1) := by decide +kernel
theorem dX2_accountsTogether_24 : decode cX2_accountsTogether 24 = .ok (.iinc 2 1, 3) := by decide +kernel
theorem dX2_accountsTogether_27 : decode cX2_accountsTogether 27 = .ok (.goto (-23), 3) := by decide +kernel
theorem dX2_accountsTogether_30 : decode cX2_accountsTogether 30 = .ok (.iload_n 1, 1) := by decide +kernel
theorem dX2_accountsTogether_31 : decode cX2_accountsTogether 31 = .ok (.ireturn, 1) := by decide +kernel
theorem dX3_init_0 : decode cX3_init 0 = .ok (.aload_n 0, 1) := by decide +kernel
theorem dX3_init_1 : decode cX3_init 1 = .ok (.invokespecial 1, 3) := by decide +kernel
theorem dX3_init_4 : decode cX3_init 4 = .ok (.return_, 1) := by decide +kernel
theorem dX3_tell_0 : decode cX3_tell 0 = .ok (.aload_n 0, 1) := by decide +kernel
theorem dX3_tell_1 : decode cX3_tell 1 = .ok (.iload_n 1, 1) := by decide +kernel
theorem dX3_tell_2 : decode cX3_tell 2 = .ok (.putfield 7, 3) := by decide +kernel
theorem dX3_tell_5 : decode cX3_tell 5 = .ok (.aload_n 0, 1) := by decide +kernel
theorem dX3_tell_6 : decode cX3_tell 6 = .ok (.iload_n 2, 1) := by decide +kernel
theorem dX3_tell_7 : decode cX3_tell 7 = .ok (.putfield 13, 3) := by decide +kernel
theorem dX3_tell_10 : decode cX3_tell 10 = .ok (.aload_n 0, 1) := by decide +kernel
theorem dX3_tell_11 : decode cX3_tell 11 = .ok (.iload_n 3, 1) := by decide +kernel
theorem dX3_tell_12 : decode cX3_tell 12 = .ok (.putfield 16, 3) := by decide +kernel
theorem dX3_tell_15 : decode cX3_tell 15 = .ok (.return_, 1) := by decide +kernel
theorem dX4_init_0 : decode cX4_init 0 = .ok (.aload_n 0, 1) := by decide +kernel
theorem dX4_init_1 : decode cX4_init 1 = .ok (.invokespecial 3, 3) := by decide +kernel
theorem dX4_init_4 : decode cX4_init 4 = .ok (.aload_n 0, 1) := by decide +kernel
theorem dX4_init_5 : decode cX4_init 5 = .ok (.iconst 4, 1) := by decide +kernel
theorem dX4_init_6 : decode cX4_init 6 = .ok (.anewarray 9, 3) := by decide +kernel
theorem dX4_init_9 : decode cX4_init 9 = .ok (.putfield 11, 3) := by decide +kernel
theorem dX4_init_12 : decode cX4_init 12 = .ok (.iconst 0, 1) := by decide +kernel
theorem dX4_init_13 : decode cX4_init 13 = .ok (.istore_n 1, 1) := by decide +kernel
theorem dX4_init_14 : decode cX4_init 14 = .ok (.iload_n 1, 1) := by decide +kernel
theorem dX4_init_15 : decode cX4_init 15 = .ok (.iconst 4, 1) := by decide +kernel
theorem dX4_init_16 : decode cX4_init 16 = .ok (.if_icmp .ge 22, 3) := by decide +kernel
theorem dX4_init_19 : decode cX4_init 19 = .ok (.aload_n 0, 1) := by decide +kernel
theorem dX4_init_20 : decode cX4_init 20 = .ok (.getfield 11, 3) := by decide +kernel
theorem dX4_init_23 : decode cX4_init 23 = .ok (.iload_n 1, 1) := by decide +kernel
theorem dX4_init_24 : decode cX4_init 24 = .ok (.new 9, 3) := by decide +kernel
theorem dX4_init_27 : decode cX4_init 27 = .ok (.dup, 1) := by decide +kernel
theorem dX4_init_28 : decode cX4_init 28 = .ok (.invokespecial 17, 3) := by decide +kernel
theorem dX4_init_31 : decode cX4_init 31 = .ok (.aastore, 1) := by decide +kernel
theorem dX4_init_32 : decode cX4_init 32 = .ok (.iinc 1 1, 3) := by decide +kernel
theorem dX4_init_35 : decode cX4_init 35 = .ok (.goto (-21), 3) := by decide +kernel
theorem dX4_init_38 : decode cX4_init 38 = .ok (.return_, 1) := by decide +kernel
theorem dX4_record_0 : decode cX4_record 0 = .ok (.aload_n 0, 1) := by decide +kernel
theorem dX4_record_1 : decode cX4_record 1 = .ok (.getfield 18, 3) := by decide +kernel
theorem dX4_record_4 : decode cX4_record 4 = .ok (.iconst 4, 1) := by decide +kernel
theorem dX4_record_5 : decode cX4_record 5 = .ok (.if_icmp .lt 7, 3) := by decide +kernel
theorem dX4_record_8 : decode cX4_record 8 = .ok (.aload_n 0, 1) := by decide +kernel
theorem dX4_record_9 : decode cX4_record 9 = .ok (.invokevirtual 22, 3) := by decide +kernel
theorem dX4_record_12 : decode cX4_record 12 = .ok (.aload_n 0, 1) := by decide +kernel
theorem dX4_record_13 : decode cX4_record 13 = .ok (.getfield 11, 3) := by decide +kernel
theorem dX4_record_16 : decode cX4_record 16 = .ok (.aload_n 0, 1) := by decide +kernel
theorem dX4_record_17 : decode cX4_record 17 = .ok (.getfield 18, 3) := by decide +kernel
theorem dX4_record_20 : decode cX4_record 20 = .ok (.aaload, 1) := by decide +kernel
theorem dX4_record_21 : decode cX4_record 21 = .ok (.aload_n 1, 1) := by decide +kernel
theorem dX4_record_22 : decode cX4_record 22 = .ok (.invokevirtual 25, 3) := by decide +kernel
theorem dX4_record_25 : decode cX4_record 25 = .ok (.aload_n 0, 1) := by decide +kernel
theorem dX4_record_26 : decode cX4_record 26 = .ok (.dup, 1) := by decide +kernel
theorem dX4_record_27 : decode cX4_record 27 = .ok (.getfield 18, 3) := by decide +kernel
theorem dX4_record_30 : decode cX4_record 30 = .ok (.iconst 1, 1) := by decide +kernel
theorem dX4_record_31 : decode cX4_record 31 = .ok (.iadd, 1) := by decide +kernel
theorem dX4_record_32 : decode cX4_record 32 = .ok (.putfield 18, 3) := by decide +kernel
theorem dX4_record_35 : decode cX4_record 35 = .ok (.return_, 1) := by decide +kernel
theorem dX4_dropOldest_0 : decode cX4_dropOldest 0 = .ok (.aload_n 0, 1) := by decide +kernel
theorem dX4_dropOldest_1 : decode cX4_dropOldest 1 = .ok (.getfield 11, 3) := by decide +kernel
theorem dX4_dropOldest_4 : decode cX4_dropOldest 4 = .ok (.iconst 0, 1) := by decide +kernel
theorem dX4_dropOldest_5 : decode cX4_dropOldest 5 = .ok (.aaload, 1) := by decide +kernel
theorem dX4_dropOldest_6 : decode cX4_dropOldest 6 = .ok (.astore_n 1, 1) := by decide +kernel
theorem dX4_dropOldest_7 : decode cX4_dropOldest 7 = .ok (.iconst 1, 1) := by decide +kernel
theorem dX4_dropOldest_8 : decode cX4_dropOldest 8 = .ok (.istore_n 2, 1) := by decide +kernel
theorem dX4_dropOldest_9 : decode cX4_dropOldest 9 = .ok (.iload_n 2, 1) := by decide +kernel
theorem dX4_dropOldest_10 : decode cX4_dropOldest 10 = .ok (.iconst 4, 1) := by decide +kernel
theorem dX4_dropOldest_11 : decode cX4_dropOldest 11 = .ok (.if_icmp .ge 23, 3) := by decide +kernel
theorem dX4_dropOldest_14 : decode cX4_dropOldest 14 = .ok (.aload_n 0, 1) := by decide +kernel
theorem dX4_dropOldest_15 : decode cX4_dropOldest 15 = .ok (.getfield 11, 3) := by decide +kernel
theorem dX4_dropOldest_18 : decode cX4_dropOldest 18 = .ok (.iload_n 2, 1) := by decide +kernel
theorem dX4_dropOldest_19 : decode cX4_dropOldest 19 = .ok (.iconst 1, 1) := by decide +kernel
theorem dX4_dropOldest_20 : decode cX4_dropOldest 20 = .ok (.isub, 1) := by decide +kernel
theorem dX4_dropOldest_21 : decode cX4_dropOldest 21 = .ok (.aload_n 0, 1) := by decide +kernel
theorem dX4_dropOldest_22 : decode cX4_dropOldest 22 = .ok (.getfield 11, 3) := by decide +kernel
theorem dX4_dropOldest_25 : decode cX4_dropOldest 25 = .ok (.iload_n 2, 1) := by decide +kernel
theorem dX4_dropOldest_26 : decode cX4_dropOldest 26 = .ok (.aaload, 1) := by decide +kernel
theorem dX4_dropOldest_27 : decode cX4_dropOldest 27 = .ok (.aastore, 1) := by decide +kernel
theorem dX4_dropOldest_28 : decode cX4_dropOldest 28 = .ok (.iinc 2 1, 3) := by decide +kernel
theorem dX4_dropOldest_31 : decode cX4_dropOldest 31 = .ok (.goto (-22), 3) := by decide +kernel
theorem dX4_dropOldest_34 : decode cX4_dropOldest 34 = .ok (.aload_n 0, 1) := by decide +kernel
theorem dX4_dropOldest_35 : decode cX4_dropOldest 35 = .ok (.getfield 11, 3) := by decide +kernel
theorem dX4_dropOldest_38 : decode cX4_dropOldest 38 = .ok (.iconst 3, 1) := by decide +kernel
theorem dX4_dropOldest_39 : decode cX4_dropOldest 39 = .ok (.aload_n 1, 1) := by decide +kernel
theorem dX4_dropOldest_40 : decode cX4_dropOldest 40 = .ok (.aastore, 1) := by decide +kernel
theorem dX4_dropOldest_41 : decode cX4_dropOldest 41 = .ok (.aload_n 0, 1) := by decide +kernel
theorem dX4_dropOldest_42 : decode cX4_dropOldest 42 = .ok (.iconst 3, 1) := by decide +kernel
theorem dX4_dropOldest_43 : decode cX4_dropOldest 43 = .ok (.putfield 18, 3) := by decide +kernel
theorem dX4_dropOldest_46 : decode cX4_dropOldest 46 = .ok (.return_, 1) := by decide +kernel
theorem dX4_restore_0 : decode cX4_restore 0 = .ok (.aload_n 0, 1) := by decide +kernel
theorem dX4_restore_1 : decode cX4_restore 1 = .ok (.getfield 18, 3) := by decide +kernel
theorem dX4_restore_4 : decode cX4_restore 4 = .ok (.iconst 1, 1) := by decide +kernel
theorem dX4_restore_5 : decode cX4_restore 5 = .ok (.if_icmp .ge 5, 3) := by decide +kernel
theorem dX4_restore_8 : decode cX4_restore 8 = .ok (.iconst 0, 1) := by decide +kernel
theorem dX4_restore_9 : decode cX4_restore 9 = .ok (.ireturn, 1) := by decide +kernel
theorem dX4_restore_10 : decode cX4_restore 10 = .ok (.aload_n 0, 1) := by decide +kernel
theorem dX4_restore_11 : decode cX4_restore 11 = .ok (.dup, 1) := by decide +kernel
theorem dX4_restore_12 : decode cX4_restore 12 = .ok (.getfield 18, 3) := by decide +kernel
theorem dX4_restore_15 : decode cX4_restore 15 = .ok (.iconst 1, 1) := by decide +kernel
theorem dX4_restore_16 : decode cX4_restore 16 = .ok (.isub, 1) := by decide +kernel
theorem dX4_restore_17 : decode cX4_restore 17 = .ok (.putfield 18, 3) := by decide +kernel
theorem dX4_restore_20 : decode cX4_restore 20 = .ok (.aload_n 1, 1) := by decide +kernel
theorem dX4_restore_21 : decode cX4_restore 21 = .ok (.aload_n 0, 1) := by decide +kernel
theorem dX4_restore_22 : decode cX4_restore 22 = .ok (.getfield 11, 3) := by decide +kernel
theorem dX4_restore_25 : decode cX4_restore 25 = .ok (.aload_n 0, 1) := by decide +kernel
theorem dX4_restore_26 : decode cX4_restore 26 = .ok (.getfield 18, 3) := by decide +kernel
theorem dX4_restore_29 : decode cX4_restore 29 = .ok (.aaload, 1) := by decide +kernel
theorem dX4_restore_30 : decode cX4_restore 30 = .ok (.invokevirtual 25, 3) := by decide +kernel
theorem dX4_restore_33 : decode cX4_restore 33 = .ok (.iconst 1, 1) := by decide +kernel
theorem dX4_restore_34 : decode cX4_restore 34 = .ok (.ireturn, 1) := by decide +kernel
theorem dX5_init_0 : decode cX5_init 0 = .ok (.aload_n 0, 1) := by decide +kernel
theorem dX5_init_1 : decode cX5_init 1 = .ok (.invokespecial 3, 3) := by decide +kernel
theorem dX5_init_4 : decode cX5_init 4 = .ok (.aload_n 0, 1) := by decide +kernel
theorem dX5_init_5 : decode cX5_init 5 = .ok (.bipush 60, 2) := by decide +kernel
theorem dX5_init_7 : decode cX5_init 7 = .ok (.newarray .char, 2) := by decide +kernel
theorem dX5_init_9 : decode cX5_init 9 = .ok (.putfield 9, 3) := by decide +kernel
theorem dX5_init_12 : decode cX5_init 12 = .ok (.aload_n 0, 1) := by decide +kernel
theorem dX5_init_13 : decode cX5_init 13 = .ok (.bipush 6, 2) := by decide +kernel
theorem dX5_init_15 : decode cX5_init 15 = .ok (.newarray .int, 2) := by decide +kernel
theorem dX5_init_17 : decode cX5_init 17 = .ok (.putfield 15, 3) := by decide +kernel
theorem dX5_init_20 : decode cX5_init 20 = .ok (.return_, 1) := by decide +kernel
theorem dX5_append_0 : decode cX5_append 0 = .ok (.aload_n 0, 1) := by decide +kernel
theorem dX5_append_1 : decode cX5_append 1 = .ok (.getfield 19, 3) := by decide +kernel
theorem dX5_append_4 : decode cX5_append 4 = .ok (.bipush 60, 2) := by decide +kernel
theorem dX5_append_6 : decode cX5_append 6 = .ok (.if_icmp .lt 5, 3) := by decide +kernel
theorem dX5_append_9 : decode cX5_append 9 = .ok (.iconst 0, 1) := by decide +kernel
theorem dX5_append_10 : decode cX5_append 10 = .ok (.ireturn, 1) := by decide +kernel
theorem dX5_append_11 : decode cX5_append 11 = .ok (.aload_n 0, 1) := by decide +kernel
theorem dX5_append_12 : decode cX5_append 12 = .ok (.getfield 9, 3) := by decide +kernel
theorem dX5_append_15 : decode cX5_append 15 = .ok (.aload_n 0, 1) := by decide +kernel
theorem dX5_append_16 : decode cX5_append 16 = .ok (.getfield 19, 3) := by decide +kernel
theorem dX5_append_19 : decode cX5_append 19 = .ok (.iload_n 1, 1) := by decide +kernel
theorem dX5_append_20 : decode cX5_append 20 = .ok (.castore, 1) := by decide +kernel
theorem dX5_append_21 : decode cX5_append 21 = .ok (.aload_n 0, 1) := by decide +kernel
theorem dX5_append_22 : decode cX5_append 22 = .ok (.dup, 1) := by decide +kernel
theorem dX5_append_23 : decode cX5_append 23 = .ok (.getfield 19, 3) := by decide +kernel
theorem dX5_append_26 : decode cX5_append 26 = .ok (.iconst 1, 1) := by decide +kernel
theorem dX5_append_27 : decode cX5_append 27 = .ok (.iadd, 1) := by decide +kernel
theorem dX5_append_28 : decode cX5_append 28 = .ok (.putfield 19, 3) := by decide +kernel
theorem dX5_append_31 : decode cX5_append 31 = .ok (.iconst 1, 1) := by decide +kernel
theorem dX5_append_32 : decode cX5_append 32 = .ok (.ireturn, 1) := by decide +kernel
theorem dX5_read_0 : decode cX5_read 0 = .ok (.aload_n 0, 1) := by decide +kernel
theorem dX5_read_1 : decode cX5_read 1 = .ok (.iload_n 1, 1) := by decide +kernel
theorem dX5_read_2 : decode cX5_read 2 = .ok (.putfield 23, 3) := by decide +kernel
theorem dX5_read_5 : decode cX5_read 5 = .ok (.aload_n 0, 1) := by decide +kernel
theorem dX5_read_6 : decode cX5_read 6 = .ok (.aload_n 0, 1) := by decide +kernel
theorem dX5_read_7 : decode cX5_read 7 = .ok (.aload_n 0, 1) := by decide +kernel
theorem dX5_read_8 : decode cX5_read 8 = .ok (.getfield 23, 3) := by decide +kernel
theorem dX5_read_11 : decode cX5_read 11 = .ok (.invokevirtual 26, 3) := by decide +kernel
theorem dX5_read_14 : decode cX5_read 14 = .ok (.putfield 30, 3) := by decide +kernel
theorem dX5_read_17 : decode cX5_read 17 = .ok (.aload_n 0, 1) := by decide +kernel
theorem dX5_read_18 : decode cX5_read 18 = .ok (.getfield 30, 3) := by decide +kernel
theorem dX5_read_21 : decode cX5_read 21 = .ok (.invokestatic 34, 3) := by decide +kernel
theorem dX5_read_24 : decode cX5_read 24 = .ok (.istore_n 2, 1) := by decide +kernel
theorem dX5_read_25 : decode cX5_read 25 = .ok (.iload_n 2, 1) := by decide +kernel
theorem dX5_read_26 : decode cX5_read 26 = .ok (.ifCond .ne 5, 3) := by decide +kernel
theorem dX5_read_29 : decode cX5_read 29 = .ok (.iconst 0, 1) := by decide +kernel
theorem dX5_read_30 : decode cX5_read 30 = .ok (.ireturn, 1) := by decide +kernel
theorem dX5_read_31 : decode cX5_read 31 = .ok (.aload_n 0, 1) := by decide +kernel
theorem dX5_read_32 : decode cX5_read 32 = .ok (.dup, 1) := by decide +kernel
theorem dX5_read_33 : decode cX5_read 33 = .ok (.getfield 23, 3) := by decide +kernel
theorem dX5_read_36 : decode cX5_read 36 = .ok (.iconst 1, 1) := by decide +kernel
theorem dX5_read_37 : decode cX5_read 37 = .ok (.iadd, 1) := by decide +kernel
theorem dX5_read_38 : decode cX5_read 38 = .ok (.putfield 23, 3) := by decide +kernel
theorem dX5_read_41 : decode cX5_read 41 = .ok (.iconst 0, 1) := by decide +kernel
theorem dX5_read_42 : decode cX5_read 42 = .ok (.istore_n 3, 1) := by decide +kernel
theorem dX5_read_43 : decode cX5_read 43 = .ok (.iload_n 3, 1) := by decide +kernel
theorem dX5_read_44 : decode cX5_read 44 = .ok (.iload_n 2, 1) := by decide +kernel
theorem dX5_read_45 : decode cX5_read 45 = .ok (.if_icmp .ge 58, 3) := by decide +kernel
theorem dX5_read_48 : decode cX5_read 48 = .ok (.iload_n 3, 1) := by decide +kernel
theorem dX5_read_49 : decode cX5_read 49 = .ok (.iload_n 2, 1) := by decide +kernel
theorem dX5_read_50 : decode cX5_read 50 = .ok (.iconst 1, 1) := by decide +kernel
theorem dX5_read_51 : decode cX5_read 51 = .ok (.isub, 1) := by decide +kernel
theorem dX5_read_52 : decode cX5_read 52 = .ok (.if_icmp .ge 8, 3) := by decide +kernel
theorem dX5_read_55 : decode cX5_read 55 = .ok (.bipush 44, 2) := by decide +kernel
theorem dX5_read_57 : decode cX5_read 57 = .ok (.goto 5, 3) := by decide +kernel
theorem dX5_read_60 : decode cX5_read 60 = .ok (.bipush 59, 2) := by decide +kernel
theorem dX5_read_62 : decode cX5_read 62 = .ok (.istore 4, 2) := by decide +kernel
theorem dX5_read_64 : decode cX5_read 64 = .ok (.aload_n 0, 1) := by decide +kernel
theorem dX5_read_65 : decode cX5_read 65 = .ok (.iload_n 3, 1) := by decide +kernel
theorem dX5_read_66 : decode cX5_read 66 = .ok (.invokevirtual 38, 3) := by decide +kernel
theorem dX5_read_69 : decode cX5_read 69 = .ok (.ifCond .eq 16, 3) := by decide +kernel
theorem dX5_read_72 : decode cX5_read 72 = .ok (.aload_n 0, 1) := by decide +kernel
theorem dX5_read_73 : decode cX5_read 73 = .ok (.aload_n 0, 1) := by decide +kernel
theorem dX5_read_74 : decode cX5_read 74 = .ok (.getfield 23, 3) := by decide +kernel
theorem dX5_read_77 : decode cX5_read 77 = .ok (.invokevirtual 26, 3) := by decide +kernel
theorem dX5_read_80 : decode cX5_read 80 = .ok (.iload 4, 2) := by decide +kernel
theorem dX5_read_82 : decode cX5_read 82 = .ok (.if_icmp .eq 5, 3) := by decide +kernel
theorem dX5_read_85 : decode cX5_read 85 = .ok (.iconst 0, 1) := by decide +kernel
theorem dX5_read_86 : decode cX5_read 86 = .ok (.ireturn, 1) := by decide +kernel
theorem dX5_read_87 : decode cX5_read 87 = .ok (.aload_n 0, 1) := by decide +kernel
theorem dX5_read_88 : decode cX5_read 88 = .ok (.dup, 1) := by decide +kernel
theorem dX5_read_89 : decode cX5_read 89 = .ok (.getfield 23, 3) := by decide +kernel
theorem dX5_read_92 : decode cX5_read 92 = .ok (.iconst 1, 1) := by decide +kernel
theorem dX5_read_93 : decode cX5_read 93 = .ok (.iadd, 1) := by decide +kernel
theorem dX5_read_94 : decode cX5_read 94 = .ok (.putfield 23, 3) := by decide +kernel
theorem dX5_read_97 : decode cX5_read 97 = .ok (.iinc 3 1, 3) := by decide +kernel
theorem dX5_read_100 : decode cX5_read 100 = .ok (.goto (-57), 3) := by decide +kernel
theorem dX5_read_103 : decode cX5_read 103 = .ok (.iconst 1, 1) := by decide +kernel
theorem dX5_read_104 : decode cX5_read 104 = .ok (.ireturn, 1) := by decide +kernel
theorem dX5_numbersOf_0 : decode cX5_numbersOf 0 = .ok (.iload_n 0, 1) := by decide +kernel
theorem dX5_numbersOf_1 : decode cX5_numbersOf 1 = .ok (.lookupswitch 52 #[(99, 45), (100, 50), (102, 48), (115, 43)], 43) := by decide +kernel
theorem dX5_numbersOf_44 : decode cX5_numbersOf 44 = .ok (.iconst 5, 1) := by decide +kernel
theorem dX5_numbersOf_45 : decode cX5_numbersOf 45 = .ok (.ireturn, 1) := by decide +kernel
theorem dX5_numbersOf_46 : decode cX5_numbersOf 46 = .ok (.bipush 6, 2) := by decide +kernel
theorem dX5_numbersOf_48 : decode cX5_numbersOf 48 = .ok (.ireturn, 1) := by decide +kernel
theorem dX5_numbersOf_49 : decode cX5_numbersOf 49 = .ok (.iconst 2, 1) := by decide +kernel
theorem dX5_numbersOf_50 : decode cX5_numbersOf 50 = .ok (.ireturn, 1) := by decide +kernel
theorem dX5_numbersOf_51 : decode cX5_numbersOf 51 = .ok (.iconst 2, 1) := by decide +kernel
theorem dX5_numbersOf_52 : decode cX5_numbersOf 52 = .ok (.ireturn, 1) := by decide +kernel
theorem dX5_numbersOf_53 : decode cX5_numbersOf 53 = .ok (.iconst 0, 1) := by decide +kernel
theorem dX5_numbersOf_54 : decode cX5_numbersOf 54 = .ok (.ireturn, 1) := by decide +kernel
theorem dX5_readNumber_0 : decode cX5_readNumber 0 = .ok (.iconst 0, 1) := by decide +kernel
theorem dX5_readNumber_1 : decode cX5_readNumber 1 = .ok (.istore_n 2, 1) := by decide +kernel
theorem dX5_readNumber_2 : decode cX5_readNumber 2 = .ok (.iconst 0, 1) := by decide +kernel
theorem dX5_readNumber_3 : decode cX5_readNumber 3 = .ok (.istore_n 3, 1) := by decide +kernel
theorem dX5_readNumber_4 : decode cX5_readNumber 4 = .ok (.iload_n 3, 1) := by decide +kernel
theorem dX5_readNumber_5 : decode cX5_readNumber 5 = .ok (.iconst 3, 1) := by decide +kernel
theorem dX5_readNumber_6 : decode cX5_readNumber 6 = .ok (.if_icmp .ge 54, 3) := by decide +kernel
theorem dX5_readNumber_9 : decode cX5_readNumber 9 = .ok (.aload_n 0, 1) := by decide +kernel
theorem dX5_readNumber_10 : decode cX5_readNumber 10 = .ok (.aload_n 0, 1) := by decide +kernel
theorem dX5_readNumber_11 : decode cX5_readNumber 11 = .ok (.getfield 23, 3) := by decide +kernel
theorem dX5_readNumber_14 : decode cX5_readNumber 14 = .ok (.invokevirtual 26, 3) := by decide +kernel
theorem dX5_readNumber_17 : decode cX5_readNumber 17 = .ok (.bipush 48, 2) := by decide +kernel
theorem dX5_readNumber_19 : decode cX5_readNumber 19 = .ok (.bipush 57, 2) := by decide +kernel
theorem dX5_readNumber_21 : decode cX5_readNumber 21 = .ok (.invokestatic 42, 3) := by decide +kernel
theorem dX5_readNumber_24 : decode cX5_readNumber 24 = .ok (.ifCond .eq 36, 3) := by decide +kernel
theorem dX5_readNumber_27 : decode cX5_readNumber 27 = .ok (.bipush 10, 2) := by decide +kernel
theorem dX5_readNumber_29 : decode cX5_readNumber 29 = .ok (.iload_n 2, 1) := by decide +kernel
theorem dX5_readNumber_30 : decode cX5_readNumber 30 = .ok (.imul, 1) := by decide +kernel
theorem dX5_readNumber_31 : decode cX5_readNumber 31 = .ok (.aload_n 0, 1) := by decide +kernel
theorem dX5_readNumber_32 : decode cX5_readNumber 32 = .ok (.aload_n 0, 1) := by decide +kernel
theorem dX5_readNumber_33 : decode cX5_readNumber 33 = .ok (.getfield 23, 3) := by decide +kernel
theorem dX5_readNumber_36 : decode cX5_readNumber 36 = .ok (.invokevirtual 26, 3) := by decide +kernel
theorem dX5_readNumber_39 : decode cX5_readNumber 39 = .ok (.iadd, 1) := by decide +kernel
theorem dX5_readNumber_40 : decode cX5_readNumber 40 = .ok (.bipush 48, 2) := by decide +kernel
theorem dX5_readNumber_42 : decode cX5_readNumber 42 = .ok (.isub, 1) := by decide +kernel
theorem dX5_readNumber_43 : decode cX5_readNumber 43 = .ok (.istore_n 2, 1) := by decide +kernel
theorem dX5_readNumber_44 : decode cX5_readNumber 44 = .ok (.aload_n 0, 1) := by decide +kernel
theorem dX5_readNumber_45 : decode cX5_readNumber 45 = .ok (.dup, 1) := by decide +kernel
theorem dX5_readNumber_46 : decode cX5_readNumber 46 = .ok (.getfield 23, 3) := by decide +kernel
theorem dX5_readNumber_49 : decode cX5_readNumber 49 = .ok (.iconst 1, 1) := by decide +kernel
theorem dX5_readNumber_50 : decode cX5_readNumber 50 = .ok (.iadd, 1) := by decide +kernel
theorem dX5_readNumber_51 : decode cX5_readNumber 51 = .ok (.putfield 23, 3) := by decide +kernel
theorem dX5_readNumber_54 : decode cX5_readNumber 54 = .ok (.iinc 3 1, 3) := by decide +kernel
theorem dX5_readNumber_57 : decode cX5_readNumber 57 = .ok (.goto (-53), 3) := by decide +kernel
theorem dX5_readNumber_60 : decode cX5_readNumber 60 = .ok (.aload_n 0, 1) := by decide +kernel
theorem dX5_readNumber_61 : decode cX5_readNumber 61 = .ok (.getfield 15, 3) := by decide +kernel
theorem dX5_readNumber_64 : decode cX5_readNumber 64 = .ok (.iload_n 1, 1) := by decide +kernel
theorem dX5_readNumber_65 : decode cX5_readNumber 65 = .ok (.iload_n 2, 1) := by decide +kernel
theorem dX5_readNumber_66 : decode cX5_readNumber 66 = .ok (.iastore, 1) := by decide +kernel
theorem dX5_readNumber_67 : decode cX5_readNumber 67 = .ok (.iload_n 3, 1) := by decide +kernel
theorem dX5_readNumber_68 : decode cX5_readNumber 68 = .ok (.ifCond .le 7, 3) := by decide +kernel
theorem dX5_readNumber_71 : decode cX5_readNumber 71 = .ok (.iconst 1, 1) := by decide +kernel
theorem dX5_readNumber_72 : decode cX5_readNumber 72 = .ok (.goto 4, 3) := by decide +kernel
theorem dX5_readNumber_75 : decode cX5_readNumber 75 = .ok (.iconst 0, 1) := by decide +kernel
theorem dX5_readNumber_76 : decode cX5_readNumber 76 = .ok (.ireturn, 1) := by decide +kernel
theorem dX5_at_0 : decode cX5_at 0 = .ok (.iload_n 1, 1) := by decide +kernel
theorem dX5_at_1 : decode cX5_at 1 = .ok (.iconst 0, 1) := by decide +kernel
theorem dX5_at_2 : decode cX5_at 2 = .ok (.aload_n 0, 1) := by decide +kernel
theorem dX5_at_3 : decode cX5_at 3 = .ok (.getfield 19, 3) := by decide +kernel
theorem dX5_at_6 : decode cX5_at 6 = .ok (.iconst 1, 1) := by decide +kernel
theorem dX5_at_7 : decode cX5_at 7 = .ok (.isub, 1) := by decide +kernel
theorem dX5_at_8 : decode cX5_at 8 = .ok (.invokestatic 42, 3) := by decide +kernel
theorem dX5_at_11 : decode cX5_at 11 = .ok (.ifCond .eq 12, 3) := by decide +kernel
theorem dX5_at_14 : decode cX5_at 14 = .ok (.aload_n 0, 1) := by decide +kernel
theorem dX5_at_15 : decode cX5_at 15 = .ok (.getfield 9, 3) := by decide +kernel
theorem dX5_at_18 : decode cX5_at 18 = .ok (.iload_n 1, 1) := by decide +kernel
theorem dX5_at_19 : decode cX5_at 19 = .ok (.caload, 1) := by decide +kernel
theorem dX5_at_20 : decode cX5_at 20 = .ok (.goto 4, 3) := by decide +kernel
theorem dX5_at_23 : decode cX5_at 23 = .ok (.iconst 0, 1) := by decide +kernel
theorem dX5_at_24 : decode cX5_at 24 = .ok (.ireturn, 1) := by decide +kernel
theorem dX6_init_0 : decode cX6_init 0 = .ok (.aload_n 0, 1) := by decide +kernel
theorem dX6_init_1 : decode cX6_init 1 = .ok (.invokespecial 3, 3) := by decide +kernel
theorem dX6_init_4 : decode cX6_init 4 = .ok (.aload_n 0, 1) := by decide +kernel
theorem dX6_init_5 : decode cX6_init 5 = .ok (.bipush 10, 2) := by decide +kernel
theorem dX6_init_7 : decode cX6_init 7 = .ok (.newarray .int, 2) := by decide +kernel
theorem dX6_init_9 : decode cX6_init 9 = .ok (.putfield 9, 3) := by decide +kernel
theorem dX6_init_12 : decode cX6_init 12 = .ok (.return_, 1) := by decide +kernel
theorem dX6_copyFrom_0 : decode cX6_copyFrom 0 = .ok (.aload_n 0, 1) := by decide +kernel
theorem dX6_copyFrom_1 : decode cX6_copyFrom 1 = .ok (.aload_n 1, 1) := by decide +kernel
theorem dX6_copyFrom_2 : decode cX6_copyFrom 2 = .ok (.getfield 15, 3) := by decide +kernel
theorem dX6_copyFrom_5 : decode cX6_copyFrom 5 = .ok (.putfield 15, 3) := by decide +kernel
theorem dX6_copyFrom_8 : decode cX6_copyFrom 8 = .ok (.aload_n 0, 1) := by decide +kernel
theorem dX6_copyFrom_9 : decode cX6_copyFrom 9 = .ok (.aload_n 1, 1) := by decide +kernel
theorem dX6_copyFrom_10 : decode cX6_copyFrom 10 = .ok (.getfield 19, 3) := by decide +kernel
theorem dX6_copyFrom_13 : decode cX6_copyFrom 13 = .ok (.putfield 19, 3) := by decide +kernel
theorem dX6_copyFrom_16 : decode cX6_copyFrom 16 = .ok (.aload_n 0, 1) := by decide +kernel
theorem dX6_copyFrom_17 : decode cX6_copyFrom 17 = .ok (.aload_n 1, 1) := by decide +kernel
theorem dX6_copyFrom_18 : decode cX6_copyFrom 18 = .ok (.getfield 22, 3) := by decide +kernel
theorem dX6_copyFrom_21 : decode cX6_copyFrom 21 = .ok (.putfield 22, 3) := by decide +kernel
theorem dX6_copyFrom_24 : decode cX6_copyFrom 24 = .ok (.aload_n 0, 1) := by decide +kernel
theorem dX6_copyFrom_25 : decode cX6_copyFrom 25 = .ok (.aload_n 1, 1) := by decide +kernel
theorem dX6_copyFrom_26 : decode cX6_copyFrom 26 = .ok (.getfield 25, 3) := by decide +kernel
theorem dX6_copyFrom_29 : decode cX6_copyFrom 29 = .ok (.putfield 25, 3) := by decide +kernel
theorem dX6_copyFrom_32 : decode cX6_copyFrom 32 = .ok (.aload_n 0, 1) := by decide +kernel
theorem dX6_copyFrom_33 : decode cX6_copyFrom 33 = .ok (.aload_n 1, 1) := by decide +kernel
theorem dX6_copyFrom_34 : decode cX6_copyFrom 34 = .ok (.getfield 28, 3) := by decide +kernel
theorem dX6_copyFrom_37 : decode cX6_copyFrom 37 = .ok (.putfield 28, 3) := by decide +kernel
theorem dX6_copyFrom_40 : decode cX6_copyFrom 40 = .ok (.aload_n 0, 1) := by decide +kernel
theorem dX6_copyFrom_41 : decode cX6_copyFrom 41 = .ok (.aload_n 1, 1) := by decide +kernel
theorem dX6_copyFrom_42 : decode cX6_copyFrom 42 = .ok (.getfield 31, 3) := by decide +kernel
theorem dX6_copyFrom_45 : decode cX6_copyFrom 45 = .ok (.putfield 31, 3) := by decide +kernel
theorem dX6_copyFrom_48 : decode cX6_copyFrom 48 = .ok (.aload_n 0, 1) := by decide +kernel
theorem dX6_copyFrom_49 : decode cX6_copyFrom 49 = .ok (.aload_n 1, 1) := by decide +kernel
theorem dX6_copyFrom_50 : decode cX6_copyFrom 50 = .ok (.getfield 34, 3) := by decide +kernel
theorem dX6_copyFrom_53 : decode cX6_copyFrom 53 = .ok (.putfield 34, 3) := by decide +kernel
theorem dX6_copyFrom_56 : decode cX6_copyFrom 56 = .ok (.aload_n 1, 1) := by decide +kernel
theorem dX6_copyFrom_57 : decode cX6_copyFrom 57 = .ok (.getfield 9, 3) := by decide +kernel
theorem dX6_copyFrom_60 : decode cX6_copyFrom 60 = .ok (.iconst 0, 1) := by decide +kernel
theorem dX6_copyFrom_61 : decode cX6_copyFrom 61 = .ok (.aload_n 0, 1) := by decide +kernel
theorem dX6_copyFrom_62 : decode cX6_copyFrom 62 = .ok (.getfield 9, 3) := by decide +kernel
theorem dX6_copyFrom_65 : decode cX6_copyFrom 65 = .ok (.iconst 0, 1) := by decide +kernel
theorem dX6_copyFrom_66 : decode cX6_copyFrom 66 = .ok (.bipush 10, 2) := by decide +kernel
theorem dX6_copyFrom_68 : decode cX6_copyFrom 68 = .ok (.invokestatic 37, 3) := by decide +kernel
theorem dX6_copyFrom_71 : decode cX6_copyFrom 71 = .ok (.return_, 1) := by decide +kernel
theorem dX7_init_0 : decode cX7_init 0 = .ok (.aload_n 0, 1) := by decide +kernel
theorem dX7_init_1 : decode cX7_init 1 = .ok (.invokespecial 1, 3) := by decide +kernel
theorem dX7_init_4 : decode cX7_init 4 = .ok (.aload_n 0, 1) := by decide +kernel
theorem dX7_init_5 : decode cX7_init 5 = .ok (.new 7, 3) := by decide +kernel
theorem dX7_init_8 : decode cX7_init 8 = .ok (.dup, 1) := by decide +kernel
theorem dX7_init_9 : decode cX7_init 9 = .ok (.invokespecial 9, 3) := by decide +kernel
theorem dX7_init_12 : decode cX7_init 12 = .ok (.putfield 10, 3) := by decide +kernel
theorem dX7_init_15 : decode cX7_init 15 = .ok (.aload_n 0, 1) := by decide +kernel
theorem dX7_init_16 : decode cX7_init 16 = .ok (.new 7, 3) := by decide +kernel
theorem dX7_init_19 : decode cX7_init 19 = .ok (.dup, 1) := by decide +kernel
theorem dX7_init_20 : decode cX7_init 20 = .ok (.invokespecial 9, 3) := by decide +kernel
theorem dX7_init_23 : decode cX7_init 23 = .ok (.putfield 16, 3) := by decide +kernel
theorem dX7_init_26 : decode cX7_init 26 = .ok (.aload_n 0, 1) := by decide +kernel
theorem dX7_init_27 : decode cX7_init 27 = .ok (.new 19, 3) := by decide +kernel
theorem dX7_init_30 : decode cX7_init 30 = .ok (.dup, 1) := by decide +kernel
theorem dX7_init_31 : decode cX7_init 31 = .ok (.invokespecial 21, 3) := by decide +kernel
theorem dX7_init_34 : decode cX7_init 34 = .ok (.putfield 22, 3) := by decide +kernel
theorem dX7_init_37 : decode cX7_init 37 = .ok (.aload_n 0, 1) := by decide +kernel
theorem dX7_init_38 : decode cX7_init 38 = .ok (.new 26, 3) := by decide +kernel
theorem dX7_init_41 : decode cX7_init 41 = .ok (.dup, 1) := by decide +kernel
theorem dX7_init_42 : decode cX7_init 42 = .ok (.invokespecial 28, 3) := by decide +kernel
theorem dX7_init_45 : decode cX7_init 45 = .ok (.putfield 29, 3) := by decide +kernel
theorem dX7_init_48 : decode cX7_init 48 = .ok (.aload_n 0, 1) := by decide +kernel
theorem dX7_init_49 : decode cX7_init 49 = .ok (.new 33, 3) := by decide +kernel
theorem dX7_init_52 : decode cX7_init 52 = .ok (.dup, 1) := by decide +kernel
theorem dX7_init_53 : decode cX7_init 53 = .ok (.invokespecial 35, 3) := by decide +kernel
theorem dX7_init_56 : decode cX7_init 56 = .ok (.putfield 36, 3) := by decide +kernel
theorem dX7_init_59 : decode cX7_init 59 = .ok (.return_, 1) := by decide +kernel
theorem dX7_port_0 : decode cX7_port 0 = .ok (.aload_n 0, 1) := by decide +kernel
theorem dX7_port_1 : decode cX7_port 1 = .ok (.aload_n 0, 1) := by decide +kernel
theorem dX7_port_2 : decode cX7_port 2 = .ok (.invokevirtual 40, 3) := by decide +kernel
theorem dX7_port_5 : decode cX7_port 5 = .ok (.iload_n 1, 1) := by decide +kernel
theorem dX7_port_6 : decode cX7_port 6 = .ok (.iload_n 2, 1) := by decide +kernel
theorem dX7_port_7 : decode cX7_port 7 = .ok (.iload_n 3, 1) := by decide +kernel
theorem dX7_port_8 : decode cX7_port 8 = .ok (.invokevirtual 44, 3) := by decide +kernel
theorem dX7_port_11 : decode cX7_port 11 = .ok (.invokevirtual 48, 3) := by decide +kernel
theorem dX7_port_14 : decode cX7_port 14 = .ok (.ireturn, 1) := by decide +kernel
theorem dX7_ship_0 : decode cX7_ship 0 = .ok (.aload_n 0, 1) := by decide +kernel
theorem dX7_ship_1 : decode cX7_ship 1 = .ok (.aload_n 0, 1) := by decide +kernel
theorem dX7_ship_2 : decode cX7_ship 2 = .ok (.invokevirtual 40, 3) := by decide +kernel
theorem dX7_ship_5 : decode cX7_ship 5 = .ok (.iload_n 1, 1) := by decide +kernel
theorem dX7_ship_6 : decode cX7_ship 6 = .ok (.iload_n 2, 1) := by decide +kernel
theorem dX7_ship_7 : decode cX7_ship 7 = .ok (.iload_n 3, 1) := by decide +kernel
theorem dX7_ship_8 : decode cX7_ship 8 = .ok (.iload 4, 2) := by decide +kernel
theorem dX7_ship_10 : decode cX7_ship 10 = .ok (.iload 5, 2) := by decide +kernel
theorem dX7_ship_12 : decode cX7_ship 12 = .ok (.invokevirtual 52, 3) := by decide +kernel
theorem dX7_ship_15 : decode cX7_ship 15 = .ok (.invokevirtual 48, 3) := by decide +kernel
theorem dX7_ship_18 : decode cX7_ship 18 = .ok (.ireturn, 1) := by decide +kernel
theorem dX7_cargo_0 : decode cX7_cargo 0 = .ok (.aload_n 0, 1) := by decide +kernel
theorem dX7_cargo_1 : decode cX7_cargo 1 = .ok (.aload_n 0, 1) := by decide +kernel
theorem dX7_cargo_2 : decode cX7_cargo 2 = .ok (.invokevirtual 40, 3) := by decide +kernel
theorem dX7_cargo_5 : decode cX7_cargo 5 = .ok (.iload_n 1, 1) := by decide +kernel
theorem dX7_cargo_6 : decode cX7_cargo 6 = .ok (.iload_n 2, 1) := by decide +kernel
theorem dX7_cargo_7 : decode cX7_cargo 7 = .ok (.iload_n 3, 1) := by decide +kernel
theorem dX7_cargo_8 : decode cX7_cargo 8 = .ok (.iload 4, 2) := by decide +kernel
theorem dX7_cargo_10 : decode cX7_cargo 10 = .ok (.iload 5, 2) := by decide +kernel
theorem dX7_cargo_12 : decode cX7_cargo 12 = .ok (.iload 6, 2) := by decide +kernel
theorem dX7_cargo_14 : decode cX7_cargo 14 = .ok (.invokevirtual 56, 3) := by decide +kernel
theorem dX7_cargo_17 : decode cX7_cargo 17 = .ok (.invokevirtual 48, 3) := by decide +kernel
theorem dX7_cargo_20 : decode cX7_cargo 20 = .ok (.ireturn, 1) := by decide +kernel
theorem dX7_fix_0 : decode cX7_fix 0 = .ok (.aload_n 0, 1) := by decide +kernel
theorem dX7_fix_1 : decode cX7_fix 1 = .ok (.aload_n 0, 1) := by decide +kernel
theorem dX7_fix_2 : decode cX7_fix 2 = .ok (.invokevirtual 40, 3) := by decide +kernel
theorem dX7_fix_5 : decode cX7_fix 5 = .ok (.iload_n 1, 1) := by decide +kernel
theorem dX7_fix_6 : decode cX7_fix 6 = .ok (.iload_n 2, 1) := by decide +kernel
theorem dX7_fix_7 : decode cX7_fix 7 = .ok (.invokevirtual 60, 3) := by decide +kernel
theorem dX7_fix_10 : decode cX7_fix 10 = .ok (.invokevirtual 48, 3) := by decide +kernel
theorem dX7_fix_13 : decode cX7_fix 13 = .ok (.ireturn, 1) := by decide +kernel
theorem dX7_delay_0 : decode cX7_delay 0 = .ok (.aload_n 0, 1) := by decide +kernel
theorem dX7_delay_1 : decode cX7_delay 1 = .ok (.aload_n 0, 1) := by decide +kernel
theorem dX7_delay_2 : decode cX7_delay 2 = .ok (.invokevirtual 40, 3) := by decide +kernel
theorem dX7_delay_5 : decode cX7_delay 5 = .ok (.iload_n 1, 1) := by decide +kernel
theorem dX7_delay_6 : decode cX7_delay 6 = .ok (.iload_n 2, 1) := by decide +kernel
theorem dX7_delay_7 : decode cX7_delay 7 = .ok (.invokevirtual 64, 3) := by decide +kernel
theorem dX7_delay_10 : decode cX7_delay 10 = .ok (.invokevirtual 48, 3) := by decide +kernel
theorem dX7_delay_13 : decode cX7_delay 13 = .ok (.ireturn, 1) := by decide +kernel
theorem dX7_callOff_0 : decode cX7_callOff 0 = .ok (.aload_n 0, 1) := by decide +kernel
theorem dX7_callOff_1 : decode cX7_callOff 1 = .ok (.aload_n 0, 1) := by decide +kernel
theorem dX7_callOff_2 : decode cX7_callOff 2 = .ok (.invokevirtual 40, 3) := by decide +kernel
theorem dX7_callOff_5 : decode cX7_callOff 5 = .ok (.iload_n 1, 1) := by decide +kernel
theorem dX7_callOff_6 : decode cX7_callOff 6 = .ok (.invokevirtual 67, 3) := by decide +kernel
theorem dX7_callOff_9 : decode cX7_callOff 9 = .ok (.invokevirtual 48, 3) := by decide +kernel
theorem dX7_callOff_12 : decode cX7_callOff 12 = .ok (.ireturn, 1) := by decide +kernel
theorem dX7_settle_0 : decode cX7_settle 0 = .ok (.aload_n 0, 1) := by decide +kernel
theorem dX7_settle_1 : decode cX7_settle 1 = .ok (.aload_n 0, 1) := by decide +kernel
theorem dX7_settle_2 : decode cX7_settle 2 = .ok (.invokevirtual 40, 3) := by decide +kernel
theorem dX7_settle_5 : decode cX7_settle 5 = .ok (.iload_n 1, 1) := by decide +kernel
theorem dX7_settle_6 : decode cX7_settle 6 = .ok (.invokevirtual 70, 3) := by decide +kernel
theorem dX7_settle_9 : decode cX7_settle 9 = .ok (.invokevirtual 48, 3) := by decide +kernel
theorem dX7_settle_12 : decode cX7_settle 12 = .ok (.ireturn, 1) := by decide +kernel
theorem dX7_shipOf_0 : decode cX7_shipOf 0 = .ok (.aload_n 0, 1) := by decide +kernel
theorem dX7_shipOf_1 : decode cX7_shipOf 1 = .ok (.getfield 10, 3) := by decide +kernel
theorem dX7_shipOf_4 : decode cX7_shipOf 4 = .ok (.iload_n 1, 1) := by decide +kernel
theorem dX7_shipOf_5 : decode cX7_shipOf 5 = .ok (.invokevirtual 73, 3) := by decide +kernel
theorem dX7_shipOf_8 : decode cX7_shipOf 8 = .ok (.ifCond .ne 6, 3) := by decide +kernel
theorem dX7_shipOf_11 : decode cX7_shipOf 11 = .ok (.ldc 77, 2) := by decide +kernel
theorem dX7_shipOf_13 : decode cX7_shipOf 13 = .ok (.ireturn, 1) := by decide +kernel
theorem dX7_shipOf_14 : decode cX7_shipOf 14 = .ok (.aload_n 0, 1) := by decide +kernel
theorem dX7_shipOf_15 : decode cX7_shipOf 15 = .ok (.getfield 10, 3) := by decide +kernel
theorem dX7_shipOf_18 : decode cX7_shipOf 18 = .ok (.getfield 78, 3) := by decide +kernel
theorem dX7_shipOf_21 : decode cX7_shipOf 21 = .ok (.iload_n 1, 1) := by decide +kernel
theorem dX7_shipOf_22 : decode cX7_shipOf 22 = .ok (.aaload, 1) := by decide +kernel
theorem dX7_shipOf_23 : decode cX7_shipOf 23 = .ok (.astore_n 3, 1) := by decide +kernel
theorem dX7_shipOf_24 : decode cX7_shipOf 24 = .ok (.iload_n 2, 1) := by decide +kernel
theorem dX7_shipOf_25 : decode cX7_shipOf 25 = .ok (.tableswitch 132 0 9 #[55, 60, 65, 70, 82, 94, 99, 104, 109, 117], 55) := by decide +kernel
theorem dX7_shipOf_80 : decode cX7_shipOf 80 = .ok (.aload_n 3, 1) := by decide +kernel
theorem dX7_shipOf_81 : decode cX7_shipOf 81 = .ok (.getfield 82, 3) := by decide +kernel
theorem dX7_shipOf_84 : decode cX7_shipOf 84 = .ok (.ireturn, 1) := by decide +kernel
theorem dX7_shipOf_85 : decode cX7_shipOf 85 = .ok (.aload_n 3, 1) := by decide +kernel
theorem dX7_shipOf_86 : decode cX7_shipOf 86 = .ok (.getfield 88, 3) := by decide +kernel
theorem dX7_shipOf_89 : decode cX7_shipOf 89 = .ok (.ireturn, 1) := by decide +kernel
theorem dX7_shipOf_90 : decode cX7_shipOf 90 = .ok (.aload_n 3, 1) := by decide +kernel
theorem dX7_shipOf_91 : decode cX7_shipOf 91 = .ok (.getfield 91, 3) := by decide +kernel
theorem dX7_shipOf_94 : decode cX7_shipOf 94 = .ok (.ireturn, 1) := by decide +kernel
theorem dX7_shipOf_95 : decode cX7_shipOf 95 = .ok (.aload_n 0, 1) := by decide +kernel
theorem dX7_shipOf_96 : decode cX7_shipOf 96 = .ok (.getfield 10, 3) := by decide +kernel
theorem dX7_shipOf_99 : decode cX7_shipOf 99 = .ok (.iload_n 1, 1) := by decide +kernel
theorem dX7_shipOf_100 : decode cX7_shipOf 100 = .ok (.invokevirtual 94, 3) := by decide +kernel
theorem dX7_shipOf_103 : decode cX7_shipOf 103 = .ok (.getfield 98, 3) := by decide +kernel
theorem dX7_shipOf_106 : decode cX7_shipOf 106 = .ok (.ireturn, 1) := by decide +kernel
theorem dX7_shipOf_107 : decode cX7_shipOf 107 = .ok (.aload_n 0, 1) := by decide +kernel
theorem dX7_shipOf_108 : decode cX7_shipOf 108 = .ok (.getfield 10, 3) := by decide +kernel
theorem dX7_shipOf_111 : decode cX7_shipOf 111 = .ok (.iload_n 1, 1) := by decide +kernel
theorem dX7_shipOf_112 : decode cX7_shipOf 112 = .ok (.invokevirtual 94, 3) := by decide +kernel
theorem dX7_shipOf_115 : decode cX7_shipOf 115 = .ok (.getfield 103, 3) := by decide +kernel
theorem dX7_shipOf_118 : decode cX7_shipOf 118 = .ok (.ireturn, 1) := by decide +kernel
theorem dX7_shipOf_119 : decode cX7_shipOf 119 = .ok (.aload_n 3, 1) := by decide +kernel
theorem dX7_shipOf_120 : decode cX7_shipOf 120 = .ok (.getfield 106, 3) := by decide +kernel
theorem dX7_shipOf_123 : decode cX7_shipOf 123 = .ok (.ireturn, 1) := by decide +kernel
theorem dX7_shipOf_124 : decode cX7_shipOf 124 = .ok (.aload_n 3, 1) := by decide +kernel
theorem dX7_shipOf_125 : decode cX7_shipOf 125 = .ok (.getfield 109, 3) := by decide +kernel
theorem dX7_shipOf_128 : decode cX7_shipOf 128 = .ok (.ireturn, 1) := by decide +kernel
theorem dX7_shipOf_129 : decode cX7_shipOf 129 = .ok (.aload_n 3, 1) := by decide +kernel
theorem dX7_shipOf_130 : decode cX7_shipOf 130 = .ok (.getfield 112, 3) := by decide +kernel
theorem dX7_shipOf_133 : decode cX7_shipOf 133 = .ok (.ireturn, 1) := by decide +kernel
theorem dX7_shipOf_134 : decode cX7_shipOf 134 = .ok (.aload_n 3, 1) := by decide +kernel
theorem dX7_shipOf_135 : decode cX7_shipOf 135 = .ok (.getfield 115, 3) := by decide +kernel
theorem dX7_shipOf_138 : decode cX7_shipOf 138 = .ok (.ldc 118, 2) := by decide +kernel
theorem dX7_shipOf_140 : decode cX7_shipOf 140 = .ok (.iadd, 1) := by decide +kernel
theorem dX7_shipOf_141 : decode cX7_shipOf 141 = .ok (.ireturn, 1) := by decide +kernel
theorem dX7_shipOf_142 : decode cX7_shipOf 142 = .ok (.aload_n 0, 1) := by decide +kernel
theorem dX7_shipOf_143 : decode cX7_shipOf 143 = .ok (.getfield 10, 3) := by decide +kernel
theorem dX7_shipOf_146 : decode cX7_shipOf 146 = .ok (.iload_n 1, 1) := by decide +kernel
theorem dX7_shipOf_147 : decode cX7_shipOf 147 = .ok (.invokevirtual 94, 3) := by decide +kernel
theorem dX7_shipOf_150 : decode cX7_shipOf 150 = .ok (.getfield 119, 3) := by decide +kernel
theorem dX7_shipOf_153 : decode cX7_shipOf 153 = .ok (.ldc 118, 2) := by decide +kernel
theorem dX7_shipOf_155 : decode cX7_shipOf 155 = .ok (.iadd, 1) := by decide +kernel
theorem dX7_shipOf_156 : decode cX7_shipOf 156 = .ok (.ireturn, 1) := by decide +kernel
theorem dX7_shipOf_157 : decode cX7_shipOf 157 = .ok (.ldc 77, 2) := by decide +kernel
theorem dX7_shipOf_159 : decode cX7_shipOf 159 = .ok (.ireturn, 1) := by decide +kernel
theorem dX7_cargoOf_0 : decode cX7_cargoOf 0 = .ok (.aload_n 0, 1) := by decide +kernel
theorem dX7_cargoOf_1 : decode cX7_cargoOf 1 = .ok (.getfield 10, 3) := by decide +kernel
theorem dX7_cargoOf_4 : decode cX7_cargoOf 4 = .ok (.iload_n 1, 1) := by decide +kernel
theorem dX7_cargoOf_5 : decode cX7_cargoOf 5 = .ok (.invokevirtual 122, 3) := by decide +kernel
theorem dX7_cargoOf_8 : decode cX7_cargoOf 8 = .ok (.ifCond .ne 6, 3) := by decide +kernel
theorem dX7_cargoOf_11 : decode cX7_cargoOf 11 = .ok (.ldc 77, 2) := by decide +kernel
theorem dX7_cargoOf_13 : decode cX7_cargoOf 13 = .ok (.ireturn, 1) := by decide +kernel
theorem dX7_cargoOf_14 : decode cX7_cargoOf 14 = .ok (.aload_n 0, 1) := by decide +kernel
theorem dX7_cargoOf_15 : decode cX7_cargoOf 15 = .ok (.getfield 10, 3) := by decide +kernel
theorem dX7_cargoOf_18 : decode cX7_cargoOf 18 = .ok (.getfield 125, 3) := by decide +kernel
theorem dX7_cargoOf_21 : decode cX7_cargoOf 21 = .ok (.iload_n 1, 1) := by decide +kernel
theorem dX7_cargoOf_22 : decode cX7_cargoOf 22 = .ok (.aaload, 1) := by decide +kernel
theorem dX7_cargoOf_23 : decode cX7_cargoOf 23 = .ok (.astore_n 3, 1) := by decide +kernel
theorem dX7_cargoOf_24 : decode cX7_cargoOf 24 = .ok (.iload_n 2, 1) := by decide +kernel
theorem dX7_cargoOf_25 : decode cX7_cargoOf 25 = .ok (.tableswitch 100 0 7 #[47, 52, 57, 62, 67, 72, 77, 82], 47) := by decide +kernel
theorem dX7_cargoOf_72 : decode cX7_cargoOf 72 = .ok (.aload_n 3, 1) := by decide +kernel
theorem dX7_cargoOf_73 : decode cX7_cargoOf 73 = .ok (.getfield 129, 3) := by decide +kernel
theorem dX7_cargoOf_76 : decode cX7_cargoOf 76 = .ok (.ireturn, 1) := by decide +kernel
theorem dX7_cargoOf_77 : decode cX7_cargoOf 77 = .ok (.aload_n 3, 1) := by decide +kernel
theorem dX7_cargoOf_78 : decode cX7_cargoOf 78 = .ok (.getfield 134, 3) := by decide +kernel
theorem dX7_cargoOf_81 : decode cX7_cargoOf 81 = .ok (.ireturn, 1) := by decide +kernel
theorem dX7_cargoOf_82 : decode cX7_cargoOf 82 = .ok (.aload_n 3, 1) := by decide +kernel
theorem dX7_cargoOf_83 : decode cX7_cargoOf 83 = .ok (.getfield 137, 3) := by decide +kernel
theorem dX7_cargoOf_86 : decode cX7_cargoOf 86 = .ok (.ireturn, 1) := by decide +kernel
theorem dX7_cargoOf_87 : decode cX7_cargoOf 87 = .ok (.aload_n 3, 1) := by decide +kernel
theorem dX7_cargoOf_88 : decode cX7_cargoOf 88 = .ok (.getfield 140, 3) := by decide +kernel
theorem dX7_cargoOf_91 : decode cX7_cargoOf 91 = .ok (.ireturn, 1) := by decide +kernel
theorem dX7_cargoOf_92 : decode cX7_cargoOf 92 = .ok (.aload_n 3, 1) := by decide +kernel
theorem dX7_cargoOf_93 : decode cX7_cargoOf 93 = .ok (.getfield 143, 3) := by decide +kernel
theorem dX7_cargoOf_96 : decode cX7_cargoOf 96 = .ok (.ireturn, 1) := by decide +kernel
theorem dX7_cargoOf_97 : decode cX7_cargoOf 97 = .ok (.aload_n 3, 1) := by decide +kernel
theorem dX7_cargoOf_98 : decode cX7_cargoOf 98 = .ok (.getfield 146, 3) := by decide +kernel
theorem dX7_cargoOf_101 : decode cX7_cargoOf 101 = .ok (.ireturn, 1) := by decide +kernel
theorem dX7_cargoOf_102 : decode cX7_cargoOf 102 = .ok (.aload_n 3, 1) := by decide +kernel
theorem dX7_cargoOf_103 : decode cX7_cargoOf 103 = .ok (.getfield 149, 3) := by decide +kernel
theorem dX7_cargoOf_106 : decode cX7_cargoOf 106 = .ok (.ireturn, 1) := by decide +kernel
theorem dX7_cargoOf_107 : decode cX7_cargoOf 107 = .ok (.aload_n 3, 1) := by decide +kernel
theorem dX7_cargoOf_108 : decode cX7_cargoOf 108 = .ok (.getfield 149, 3) := by decide +kernel
theorem dX7_cargoOf_111 : decode cX7_cargoOf 111 = .ok (.iconst 1, 1) := by decide +kernel
theorem dX7_cargoOf_112 : decode cX7_cargoOf 112 = .ok (.if_icmp .ne 10, 3) := by decide +kernel
theorem dX7_cargoOf_115 : decode cX7_cargoOf 115 = .ok (.aload_n 3, 1) := by decide +kernel
theorem dX7_cargoOf_116 : decode cX7_cargoOf 116 = .ok (.getfield 152, 3) := by decide +kernel
theorem dX7_cargoOf_119 : decode cX7_cargoOf 119 = .ok (.goto 5, 3) := by decide +kernel
theorem dX7_cargoOf_122 : decode cX7_cargoOf 122 = .ok (.ldc 155, 2) := by decide +kernel
theorem dX7_cargoOf_124 : decode cX7_cargoOf 124 = .ok (.ireturn, 1) := by decide +kernel
theorem dX7_cargoOf_125 : decode cX7_cargoOf 125 = .ok (.ldc 77, 2) := by decide +kernel
theorem dX7_cargoOf_127 : decode cX7_cargoOf 127 = .ok (.ireturn, 1) := by decide +kernel
theorem dX7_fixtureOf_0 : decode cX7_fixtureOf 0 = .ok (.aload_n 0, 1) := by decide +kernel
theorem dX7_fixtureOf_1 : decode cX7_fixtureOf 1 = .ok (.getfield 10, 3) := by decide +kernel
theorem dX7_fixtureOf_4 : decode cX7_fixtureOf 4 = .ok (.iload_n 1, 1) := by decide +kernel
theorem dX7_fixtureOf_5 : decode cX7_fixtureOf 5 = .ok (.invokevirtual 73, 3) := by decide +kernel
theorem dX7_fixtureOf_8 : decode cX7_fixtureOf 8 = .ok (.ifCond .eq 16, 3) := by decide +kernel
theorem dX7_fixtureOf_11 : decode cX7_fixtureOf 11 = .ok (.iload_n 2, 1) := by decide +kernel
theorem dX7_fixtureOf_12 : decode cX7_fixtureOf 12 = .ok (.ifCond .lt 12, 3) := by decide +kernel
theorem dX7_fixtureOf_15 : decode cX7_fixtureOf 15 = .ok (.iload_n 3, 1) := by decide +kernel
theorem dX7_fixtureOf_16 : decode cX7_fixtureOf 16 = .ok (.iconst 0, 1) := by decide +kernel
theorem dX7_fixtureOf_17 : decode cX7_fixtureOf 17 = .ok (.iconst 5, 1) := by decide +kernel
theorem dX7_fixtureOf_18 : decode cX7_fixtureOf 18 = .ok (.invokestatic 156, 3) := by decide +kernel
theorem dX7_fixtureOf_21 : decode cX7_fixtureOf 21 = .ok (.ifCond .ne 6, 3) := by decide +kernel
theorem dX7_fixtureOf_24 : decode cX7_fixtureOf 24 = .ok (.ldc 77, 2) := by decide +kernel
theorem dX7_fixtureOf_26 : decode cX7_fixtureOf 26 = .ok (.ireturn, 1) := by decide +kernel
theorem dX7_fixtureOf_27 : decode cX7_fixtureOf 27 = .ok (.aload_n 0, 1) := by decide +kernel
theorem dX7_fixtureOf_28 : decode cX7_fixtureOf 28 = .ok (.getfield 10, 3) := by decide +kernel
theorem dX7_fixtureOf_31 : decode cX7_fixtureOf 31 = .ok (.getfield 78, 3) := by decide +kernel
theorem dX7_fixtureOf_34 : decode cX7_fixtureOf 34 = .ok (.iload_n 1, 1) := by decide +kernel
theorem dX7_fixtureOf_35 : decode cX7_fixtureOf 35 = .ok (.aaload, 1) := by decide +kernel
theorem dX7_fixtureOf_36 : decode cX7_fixtureOf 36 = .ok (.astore 4, 2) := by decide +kernel
theorem dX7_fixtureOf_38 : decode cX7_fixtureOf 38 = .ok (.iload_n 2, 1) := by decide +kernel
theorem dX7_fixtureOf_39 : decode cX7_fixtureOf 39 = .ok (.aload 4, 2) := by decide +kernel
theorem dX7_fixtureOf_41 : decode cX7_fixtureOf 41 = .ok (.getfield 112, 3) := by decide +kernel
theorem dX7_fixtureOf_44 : decode cX7_fixtureOf 44 = .ok (.if_icmp .lt 6, 3) := by decide +kernel
theorem dX7_fixtureOf_47 : decode cX7_fixtureOf 47 = .ok (.ldc 155, 2) := by decide +kernel
theorem dX7_fixtureOf_49 : decode cX7_fixtureOf 49 = .ok (.ireturn, 1) := by decide +kernel
theorem dX7_fixtureOf_50 : decode cX7_fixtureOf 50 = .ok (.aload_n 0, 1) := by decide +kernel
theorem dX7_fixtureOf_51 : decode cX7_fixtureOf 51 = .ok (.getfield 10, 3) := by decide +kernel
theorem dX7_fixtureOf_54 : decode cX7_fixtureOf 54 = .ok (.iload_n 1, 1) := by decide +kernel
theorem dX7_fixtureOf_55 : decode cX7_fixtureOf 55 = .ok (.iload_n 2, 1) := by decide +kernel
theorem dX7_fixtureOf_56 : decode cX7_fixtureOf 56 = .ok (.iconst 1, 1) := by decide +kernel
theorem dX7_fixtureOf_57 : decode cX7_fixtureOf 57 = .ok (.iadd, 1) := by decide +kernel
theorem dX7_fixtureOf_58 : decode cX7_fixtureOf 58 = .ok (.invokevirtual 160, 3) := by decide +kernel
theorem dX7_fixtureOf_61 : decode cX7_fixtureOf 61 = .ok (.astore 5, 2) := by decide +kernel
theorem dX7_fixtureOf_63 : decode cX7_fixtureOf 63 = .ok (.iload_n 3, 1) := by decide +kernel
theorem dX7_fixtureOf_64 : decode cX7_fixtureOf 64 = .ok (.tableswitch 71 0 4 #[36, 44, 50, 56, 62], 36) := by decide +kernel
theorem dX7_fixtureOf_100 : decode cX7_fixtureOf 100 = .ok (.aload 4, 2) := by decide +kernel
theorem dX7_fixtureOf_102 : decode cX7_fixtureOf 102 = .ok (.getfield 164, 3) := by decide +kernel
theorem dX7_fixtureOf_105 : decode cX7_fixtureOf 105 = .ok (.iload_n 2, 1) := by decide +kernel
theorem dX7_fixtureOf_106 : decode cX7_fixtureOf 106 = .ok (.iaload, 1) := by decide +kernel
theorem dX7_fixtureOf_107 : decode cX7_fixtureOf 107 = .ok (.ireturn, 1) := by decide +kernel
theorem dX7_fixtureOf_108 : decode cX7_fixtureOf 108 = .ok (.aload 5, 2) := by decide +kernel
theorem dX7_fixtureOf_110 : decode cX7_fixtureOf 110 = .ok (.getfield 168, 3) := by decide +kernel
theorem dX7_fixtureOf_113 : decode cX7_fixtureOf 113 = .ok (.ireturn, 1) := by decide +kernel
theorem dX7_fixtureOf_114 : decode cX7_fixtureOf 114 = .ok (.aload 5, 2) := by decide +kernel
theorem dX7_fixtureOf_116 : decode cX7_fixtureOf 116 = .ok (.getfield 171, 3) := by decide +kernel
theorem dX7_fixtureOf_119 : decode cX7_fixtureOf 119 = .ok (.ireturn, 1) := by decide +kernel
theorem dX7_fixtureOf_120 : decode cX7_fixtureOf 120 = .ok (.aload 5, 2) := by decide +kernel
theorem dX7_fixtureOf_122 : decode cX7_fixtureOf 122 = .ok (.getfield 103, 3) := by decide +kernel
theorem dX7_fixtureOf_125 : decode cX7_fixtureOf 125 = .ok (.ireturn, 1) := by decide +kernel
theorem dX7_fixtureOf_126 : decode cX7_fixtureOf 126 = .ok (.aload 5, 2) := by decide +kernel
theorem dX7_fixtureOf_128 : decode cX7_fixtureOf 128 = .ok (.getfield 174, 3) := by decide +kernel
theorem dX7_fixtureOf_131 : decode cX7_fixtureOf 131 = .ok (.ldc 118, 2) := by decide +kernel
theorem dX7_fixtureOf_133 : decode cX7_fixtureOf 133 = .ok (.iadd, 1) := by decide +kernel
theorem dX7_fixtureOf_134 : decode cX7_fixtureOf 134 = .ok (.ireturn, 1) := by decide +kernel
theorem dX7_fixtureOf_135 : decode cX7_fixtureOf 135 = .ok (.aload 5, 2) := by decide +kernel
theorem dX7_fixtureOf_137 : decode cX7_fixtureOf 137 = .ok (.getfield 177, 3) := by decide +kernel
theorem dX7_fixtureOf_140 : decode cX7_fixtureOf 140 = .ok (.ireturn, 1) := by decide +kernel
theorem dX7_distance_0 : decode cX7_distance 0 = .ok (.iload_n 1, 1) := by decide +kernel
theorem dX7_distance_1 : decode cX7_distance 1 = .ok (.invokestatic 180, 3) := by decide +kernel
theorem dX7_distance_4 : decode cX7_distance 4 = .ok (.ifCond .eq 10, 3) := by decide +kernel
theorem dX7_distance_7 : decode cX7_distance 7 = .ok (.iload_n 2, 1) := by decide +kernel
theorem dX7_distance_8 : decode cX7_distance 8 = .ok (.invokestatic 180, 3) := by decide +kernel
theorem dX7_distance_11 : decode cX7_distance 11 = .ok (.ifCond .ne 6, 3) := by decide +kernel
theorem dX7_distance_14 : decode cX7_distance 14 = .ok (.ldc 77, 2) := by decide +kernel
theorem dX7_distance_16 : decode cX7_distance 16 = .ok (.ireturn, 1) := by decide +kernel
theorem dX7_distance_17 : decode cX7_distance 17 = .ok (.aload_n 0, 1) := by decide +kernel
theorem dX7_distance_18 : decode cX7_distance 18 = .ok (.getfield 10, 3) := by decide +kernel
theorem dX7_distance_21 : decode cX7_distance 21 = .ok (.iload_n 1, 1) := by decide +kernel
theorem dX7_distance_22 : decode cX7_distance 22 = .ok (.iload_n 2, 1) := by decide +kernel
theorem dX7_distance_23 : decode cX7_distance 23 = .ok (.invokevirtual 183, 3) := by decide +kernel
theorem dX7_distance_26 : decode cX7_distance 26 = .ok (.ireturn, 1) := by decide +kernel
theorem dX7_voyage_0 : decode cX7_voyage 0 = .ok (.aload_n 0, 1) := by decide +kernel
theorem dX7_voyage_1 : decode cX7_voyage 1 = .ok (.getfield 10, 3) := by decide +kernel
theorem dX7_voyage_4 : decode cX7_voyage 4 = .ok (.iload_n 1, 1) := by decide +kernel
theorem dX7_voyage_5 : decode cX7_voyage 5 = .ok (.invokevirtual 73, 3) := by decide +kernel
theorem dX7_voyage_8 : decode cX7_voyage 8 = .ok (.ifCond .eq 14, 3) := by decide +kernel
theorem dX7_voyage_11 : decode cX7_voyage 11 = .ok (.aload_n 0, 1) := by decide +kernel
theorem dX7_voyage_12 : decode cX7_voyage 12 = .ok (.getfield 10, 3) := by decide +kernel
theorem dX7_voyage_15 : decode cX7_voyage 15 = .ok (.iload_n 2, 1) := by decide +kernel
theorem dX7_voyage_16 : decode cX7_voyage 16 = .ok (.invokevirtual 122, 3) := by decide +kernel
theorem dX7_voyage_19 : decode cX7_voyage 19 = .ok (.ifCond .ne 6, 3) := by decide +kernel
theorem dX7_voyage_22 : decode cX7_voyage 22 = .ok (.ldc 77, 2) := by decide +kernel
theorem dX7_voyage_24 : decode cX7_voyage 24 = .ok (.ireturn, 1) := by decide +kernel
theorem dX7_voyage_25 : decode cX7_voyage 25 = .ok (.aload_n 0, 1) := by decide +kernel
theorem dX7_voyage_26 : decode cX7_voyage 26 = .ok (.getfield 10, 3) := by decide +kernel
theorem dX7_voyage_29 : decode cX7_voyage 29 = .ok (.iload_n 1, 1) := by decide +kernel
theorem dX7_voyage_30 : decode cX7_voyage 30 = .ok (.iload_n 2, 1) := by decide +kernel
theorem dX7_voyage_31 : decode cX7_voyage 31 = .ok (.invokevirtual 186, 3) := by decide +kernel
theorem dX7_voyage_34 : decode cX7_voyage 34 = .ok (.istore 4, 2) := by decide +kernel
theorem dX7_voyage_36 : decode cX7_voyage 36 = .ok (.aload_n 0, 1) := by decide +kernel
theorem dX7_voyage_37 : decode cX7_voyage 37 = .ok (.getfield 10, 3) := by decide +kernel
theorem dX7_voyage_40 : decode cX7_voyage 40 = .ok (.getfield 189, 3) := by decide +kernel
theorem dX7_voyage_43 : decode cX7_voyage 43 = .ok (.astore 5, 2) := by decide +kernel
theorem dX7_voyage_45 : decode cX7_voyage 45 = .ok (.iload_n 3, 1) := by decide +kernel
theorem dX7_voyage_46 : decode cX7_voyage 46 = .ok (.tableswitch 64 0 4 #[34, 37, 43, 49, 58], 34) := by decide +kernel
theorem dX7_voyage_80 : decode cX7_voyage 80 = .ok (.iload 4, 2) := by decide +kernel
theorem dX7_voyage_82 : decode cX7_voyage 82 = .ok (.ireturn, 1) := by decide +kernel
theorem dX7_voyage_83 : decode cX7_voyage 83 = .ok (.aload 5, 2) := by decide +kernel
theorem dX7_voyage_85 : decode cX7_voyage 85 = .ok (.getfield 171, 3) := by decide +kernel
theorem dX7_voyage_88 : decode cX7_voyage 88 = .ok (.ireturn, 1) := by decide +kernel
theorem dX7_voyage_89 : decode cX7_voyage 89 = .ok (.aload 5, 2) := by decide +kernel
theorem dX7_voyage_91 : decode cX7_voyage 91 = .ok (.getfield 193, 3) := by decide +kernel
theorem dX7_voyage_94 : decode cX7_voyage 94 = .ok (.ireturn, 1) := by decide +kernel
theorem dX7_voyage_95 : decode cX7_voyage 95 = .ok (.aload 5, 2) := by decide +kernel
theorem dX7_voyage_97 : decode cX7_voyage 97 = .ok (.getfield 174, 3) := by decide +kernel
theorem dX7_voyage_100 : decode cX7_voyage 100 = .ok (.ldc 118, 2) := by decide +kernel
theorem dX7_voyage_102 : decode cX7_voyage 102 = .ok (.iadd, 1) := by decide +kernel
theorem dX7_voyage_103 : decode cX7_voyage 103 = .ok (.ireturn, 1) := by decide +kernel
theorem dX7_voyage_104 : decode cX7_voyage 104 = .ok (.aload 5, 2) := by decide +kernel
theorem dX7_voyage_106 : decode cX7_voyage 106 = .ok (.invokevirtual 196, 3) := by decide +kernel
theorem dX7_voyage_109 : decode cX7_voyage 109 = .ok (.ireturn, 1) := by decide +kernel
theorem dX7_voyage_110 : decode cX7_voyage 110 = .ok (.ldc 77, 2) := by decide +kernel
theorem dX7_voyage_112 : decode cX7_voyage 112 = .ok (.ireturn, 1) := by decide +kernel
theorem dX7_bestCargo_0 : decode cX7_bestCargo 0 = .ok (.aload_n 0, 1) := by decide +kernel
theorem dX7_bestCargo_1 : decode cX7_bestCargo 1 = .ok (.getfield 10, 3) := by decide +kernel
theorem dX7_bestCargo_4 : decode cX7_bestCargo 4 = .ok (.iload_n 1, 1) := by decide +kernel
theorem dX7_bestCargo_5 : decode cX7_bestCargo 5 = .ok (.invokevirtual 73, 3) := by decide +kernel
theorem dX7_bestCargo_8 : decode cX7_bestCargo 8 = .ok (.ifCond .ne 6, 3) := by decide +kernel
theorem dX7_bestCargo_11 : decode cX7_bestCargo 11 = .ok (.ldc 77, 2) := by decide +kernel
theorem dX7_bestCargo_13 : decode cX7_bestCargo 13 = .ok (.ireturn, 1) := by decide +kernel
theorem dX7_bestCargo_14 : decode cX7_bestCargo 14 = .ok (.aload_n 0, 1) := by decide +kernel
theorem dX7_bestCargo_15 : decode cX7_bestCargo 15 = .ok (.getfield 10, 3) := by decide +kernel
theorem dX7_bestCargo_18 : decode cX7_bestCargo 18 = .ok (.iload_n 1, 1) := by decide +kernel
theorem dX7_bestCargo_19 : decode cX7_bestCargo 19 = .ok (.iload_n 1, 1) := by decide +kernel
theorem dX7_bestCargo_20 : decode cX7_bestCargo 20 = .ok (.iconst 1, 1) := by decide +kernel
theorem dX7_bestCargo_21 : decode cX7_bestCargo 21 = .ok (.iadd, 1) := by decide +kernel
theorem dX7_bestCargo_22 : decode cX7_bestCargo 22 = .ok (.iconst 0, 1) := by decide +kernel
theorem dX7_bestCargo_23 : decode cX7_bestCargo 23 = .ok (.aload_n 0, 1) := by decide +kernel
theorem dX7_bestCargo_24 : decode cX7_bestCargo 24 = .ok (.getfield 10, 3) := by decide +kernel
theorem dX7_bestCargo_27 : decode cX7_bestCargo 27 = .ok (.getfield 200, 3) := by decide +kernel
theorem dX7_bestCargo_30 : decode cX7_bestCargo 30 = .ok (.invokevirtual 203, 3) := by decide +kernel
theorem dX7_bestCargo_33 : decode cX7_bestCargo 33 = .ok (.ifCond .eq 13, 3) := by decide +kernel
theorem dX7_bestCargo_36 : decode cX7_bestCargo 36 = .ok (.aload_n 0, 1) := by decide +kernel
theorem dX7_bestCargo_37 : decode cX7_bestCargo 37 = .ok (.getfield 10, 3) := by decide +kernel
theorem dX7_bestCargo_40 : decode cX7_bestCargo 40 = .ok (.getfield 207, 3) := by decide +kernel
theorem dX7_bestCargo_43 : decode cX7_bestCargo 43 = .ok (.goto 5, 3) := by decide +kernel
theorem dX7_bestCargo_46 : decode cX7_bestCargo 46 = .ok (.ldc 155, 2) := by decide +kernel
theorem dX7_bestCargo_48 : decode cX7_bestCargo 48 = .ok (.ireturn, 1) := by decide +kernel
theorem dX7_bestShip_0 : decode cX7_bestShip 0 = .ok (.aload_n 0, 1) := by decide +kernel
theorem dX7_bestShip_1 : decode cX7_bestShip 1 = .ok (.getfield 10, 3) := by decide +kernel
theorem dX7_bestShip_4 : decode cX7_bestShip 4 = .ok (.iload_n 1, 1) := by decide +kernel
theorem dX7_bestShip_5 : decode cX7_bestShip 5 = .ok (.invokevirtual 122, 3) := by decide +kernel
theorem dX7_bestShip_8 : decode cX7_bestShip 8 = .ok (.ifCond .ne 6, 3) := by decide +kernel
theorem dX7_bestShip_11 : decode cX7_bestShip 11 = .ok (.ldc 77, 2) := by decide +kernel
theorem dX7_bestShip_13 : decode cX7_bestShip 13 = .ok (.ireturn, 1) := by decide +kernel
theorem dX7_bestShip_14 : decode cX7_bestShip 14 = .ok (.aload_n 0, 1) := by decide +kernel
theorem dX7_bestShip_15 : decode cX7_bestShip 15 = .ok (.getfield 10, 3) := by decide +kernel
theorem dX7_bestShip_18 : decode cX7_bestShip 18 = .ok (.getfield 125, 3) := by decide +kernel
theorem dX7_bestShip_21 : decode cX7_bestShip 21 = .ok (.iload_n 1, 1) := by decide +kernel
theorem dX7_bestShip_22 : decode cX7_bestShip 22 = .ok (.aaload, 1) := by decide +kernel
theorem dX7_bestShip_23 : decode cX7_bestShip 23 = .ok (.getfield 149, 3) := by decide +kernel
theorem dX7_bestShip_26 : decode cX7_bestShip 26 = .ok (.ifCond .eq 6, 3) := by decide +kernel
theorem dX7_bestShip_29 : decode cX7_bestShip 29 = .ok (.ldc 210, 2) := by decide +kernel
theorem dX7_bestShip_31 : decode cX7_bestShip 31 = .ok (.ireturn, 1) := by decide +kernel
theorem dX7_bestShip_32 : decode cX7_bestShip 32 = .ok (.aload_n 0, 1) := by decide +kernel
theorem dX7_bestShip_33 : decode cX7_bestShip 33 = .ok (.getfield 10, 3) := by decide +kernel
theorem dX7_bestShip_36 : decode cX7_bestShip 36 = .ok (.iconst 0, 1) := by decide +kernel
theorem dX7_bestShip_37 : decode cX7_bestShip 37 = .ok (.aload_n 0, 1) := by decide +kernel
theorem dX7_bestShip_38 : decode cX7_bestShip 38 = .ok (.getfield 10, 3) := by decide +kernel
theorem dX7_bestShip_41 : decode cX7_bestShip 41 = .ok (.getfield 211, 3) := by decide +kernel
theorem dX7_bestShip_44 : decode cX7_bestShip 44 = .ok (.iload_n 1, 1) := by decide +kernel
theorem dX7_bestShip_45 : decode cX7_bestShip 45 = .ok (.iload_n 1, 1) := by decide +kernel
theorem dX7_bestShip_46 : decode cX7_bestShip 46 = .ok (.iconst 1, 1) := by decide +kernel
theorem dX7_bestShip_47 : decode cX7_bestShip 47 = .ok (.iadd, 1) := by decide +kernel
theorem dX7_bestShip_48 : decode cX7_bestShip 48 = .ok (.invokevirtual 203, 3) := by decide +kernel
theorem dX7_bestShip_51 : decode cX7_bestShip 51 = .ok (.ifCond .eq 13, 3) := by decide +kernel
theorem dX7_bestShip_54 : decode cX7_bestShip 54 = .ok (.aload_n 0, 1) := by decide +kernel
theorem dX7_bestShip_55 : decode cX7_bestShip 55 = .ok (.getfield 10, 3) := by decide +kernel
theorem dX7_bestShip_58 : decode cX7_bestShip 58 = .ok (.getfield 214, 3) := by decide +kernel
theorem dX7_bestShip_61 : decode cX7_bestShip 61 = .ok (.goto 5, 3) := by decide +kernel
theorem dX7_bestShip_64 : decode cX7_bestShip 64 = .ok (.ldc 155, 2) := by decide +kernel
theorem dX7_bestShip_66 : decode cX7_bestShip 66 = .ok (.ireturn, 1) := by decide +kernel
theorem dX7_plan_0 : decode cX7_plan 0 = .ok (.iload_n 1, 1) := by decide +kernel
theorem dX7_plan_1 : decode cX7_plan 1 = .ok (.iconst 0, 1) := by decide +kernel
theorem dX7_plan_2 : decode cX7_plan 2 = .ok (.iconst 3, 1) := by decide +kernel
theorem dX7_plan_3 : decode cX7_plan 3 = .ok (.invokestatic 156, 3) := by decide +kernel
theorem dX7_plan_6 : decode cX7_plan 6 = .ok (.ifCond .ne 6, 3) := by decide +kernel
theorem dX7_plan_9 : decode cX7_plan 9 = .ok (.ldc 77, 2) := by decide +kernel
theorem dX7_plan_11 : decode cX7_plan 11 = .ok (.ireturn, 1) := by decide +kernel
theorem dX7_plan_12 : decode cX7_plan 12 = .ok (.aload_n 0, 1) := by decide +kernel
theorem dX7_plan_13 : decode cX7_plan 13 = .ok (.invokevirtual 40, 3) := by decide +kernel
theorem dX7_plan_16 : decode cX7_plan 16 = .ok (.pop, 1) := by decide +kernel
theorem dX7_plan_17 : decode cX7_plan 17 = .ok (.iconst 0, 1) := by decide +kernel
theorem dX7_plan_18 : decode cX7_plan 18 = .ok (.istore_n 2, 1) := by decide +kernel
theorem dX7_plan_19 : decode cX7_plan 19 = .ok (.iconst 0, 1) := by decide +kernel
theorem dX7_plan_20 : decode cX7_plan 20 = .ok (.istore_n 3, 1) := by decide +kernel
theorem dX7_plan_21 : decode cX7_plan 21 = .ok (.lconst 0, 1) := by decide +kernel
theorem dX7_plan_22 : decode cX7_plan 22 = .ok (.lstore 4, 2) := by decide +kernel
theorem dX7_plan_24 : decode cX7_plan 24 = .ok (.iload_n 2, 1) := by decide +kernel
theorem dX7_plan_25 : decode cX7_plan 25 = .ok (.bipush 10, 2) := by decide +kernel
theorem dX7_plan_27 : decode cX7_plan 27 = .ok (.if_icmp .ge 70, 3) := by decide +kernel
theorem dX7_plan_30 : decode cX7_plan 30 = .ok (.aload_n 0, 1) := by decide +kernel
theorem dX7_plan_31 : decode cX7_plan 31 = .ok (.getfield 16, 3) := by decide +kernel
theorem dX7_plan_34 : decode cX7_plan 34 = .ok (.invokevirtual 217, 3) := by decide +kernel
theorem dX7_plan_37 : decode cX7_plan 37 = .ok (.ifCond .eq 60, 3) := by decide +kernel
theorem dX7_plan_40 : decode cX7_plan 40 = .ok (.iinc 2 1, 3) := by decide +kernel
theorem dX7_plan_43 : decode cX7_plan 43 = .ok (.iload_n 3, 1) := by decide +kernel
theorem dX7_plan_44 : decode cX7_plan 44 = .ok (.aload_n 0, 1) := by decide +kernel
theorem dX7_plan_45 : decode cX7_plan 45 = .ok (.getfield 16, 3) := by decide +kernel
theorem dX7_plan_48 : decode cX7_plan 48 = .ok (.getfield 221, 3) := by decide +kernel
theorem dX7_plan_51 : decode cX7_plan 51 = .ok (.iadd, 1) := by decide +kernel
theorem dX7_plan_52 : decode cX7_plan 52 = .ok (.istore_n 3, 1) := by decide +kernel
theorem dX7_plan_53 : decode cX7_plan 53 = .ok (.lload 4, 2) := by decide +kernel
theorem dX7_plan_55 : decode cX7_plan 55 = .ok (.aload_n 0, 1) := by decide +kernel
theorem dX7_plan_56 : decode cX7_plan 56 = .ok (.getfield 16, 3) := by decide +kernel
theorem dX7_plan_59 : decode cX7_plan 59 = .ok (.aload_n 0, 1) := by decide +kernel
theorem dX7_plan_60 : decode cX7_plan 60 = .ok (.getfield 16, 3) := by decide +kernel
theorem dX7_plan_63 : decode cX7_plan 63 = .ok (.getfield 207, 3) := by decide +kernel
theorem dX7_plan_66 : decode cX7_plan 66 = .ok (.invokevirtual 224, 3) := by decide +kernel
theorem dX7_plan_69 : decode cX7_plan 69 = .ok (.lor, 1) := by decide +kernel
theorem dX7_plan_70 : decode cX7_plan 70 = .ok (.lstore 4, 2) := by decide +kernel
theorem dX7_plan_72 : decode cX7_plan 72 = .ok (.aload_n 0, 1) := by decide +kernel
theorem dX7_plan_73 : decode cX7_plan 73 = .ok (.getfield 16, 3) := by decide +kernel
theorem dX7_plan_76 : decode cX7_plan 76 = .ok (.aload_n 0, 1) := by decide +kernel
theorem dX7_plan_77 : decode cX7_plan 77 = .ok (.getfield 16, 3) := by decide +kernel
theorem dX7_plan_80 : decode cX7_plan 80 = .ok (.getfield 214, 3) := by decide +kernel
theorem dX7_plan_83 : decode cX7_plan 83 = .ok (.aload_n 0, 1) := by decide +kernel
theorem dX7_plan_84 : decode cX7_plan 84 = .ok (.getfield 16, 3) := by decide +kernel
theorem dX7_plan_87 : decode cX7_plan 87 = .ok (.getfield 207, 3) := by decide +kernel
theorem dX7_plan_90 : decode cX7_plan 90 = .ok (.invokevirtual 60, 3) := by decide +kernel
theorem dX7_plan_93 : decode cX7_plan 93 = .ok (.pop, 1) := by decide +kernel
theorem dX7_plan_94 : decode cX7_plan 94 = .ok (.goto (-70), 3) := by decide +kernel
theorem dX7_plan_97 : decode cX7_plan 97 = .ok (.iload_n 1, 1) := by decide +kernel
theorem dX7_plan_98 : decode cX7_plan 98 = .ok (.tableswitch 38 0 2 #[26, 28, 30], 26) := by decide +kernel
theorem dX7_plan_124 : decode cX7_plan 124 = .ok (.iload_n 2, 1) := by decide +kernel
theorem dX7_plan_125 : decode cX7_plan 125 = .ok (.ireturn, 1) := by decide +kernel
theorem dX7_plan_126 : decode cX7_plan 126 = .ok (.iload_n 3, 1) := by decide +kernel
theorem dX7_plan_127 : decode cX7_plan 127 = .ok (.ireturn, 1) := by decide +kernel
theorem dX7_plan_128 : decode cX7_plan 128 = .ok (.aload_n 0, 1) := by decide +kernel
theorem dX7_plan_129 : decode cX7_plan 129 = .ok (.getfield 16, 3) := by decide +kernel
theorem dX7_plan_132 : decode cX7_plan 132 = .ok (.invokevirtual 228, 3) := by decide +kernel
theorem dX7_plan_135 : decode cX7_plan 135 = .ok (.ireturn, 1) := by decide +kernel
theorem dX7_plan_136 : decode cX7_plan 136 = .ok (.lload 4, 2) := by decide +kernel
theorem dX7_plan_138 : decode cX7_plan 138 = .ok (.invokestatic 231, 3) := by decide +kernel
theorem dX7_plan_141 : decode cX7_plan 141 = .ok (.ireturn, 1) := by decide +kernel
theorem dX7_slack_0 : decode cX7_slack 0 = .ok (.aload_n 0, 1) := by decide +kernel
theorem dX7_slack_1 : decode cX7_slack 1 = .ok (.getfield 10, 3) := by decide +kernel
theorem dX7_slack_4 : decode cX7_slack 4 = .ok (.iload_n 1, 1) := by decide +kernel
theorem dX7_slack_5 : decode cX7_slack 5 = .ok (.invokevirtual 73, 3) := by decide +kernel
theorem dX7_slack_8 : decode cX7_slack 8 = .ok (.ifCond .eq 14, 3) := by decide +kernel
theorem dX7_slack_11 : decode cX7_slack 11 = .ok (.aload_n 0, 1) := by decide +kernel
theorem dX7_slack_12 : decode cX7_slack 12 = .ok (.getfield 10, 3) := by decide +kernel
theorem dX7_slack_15 : decode cX7_slack 15 = .ok (.iload_n 1, 1) := by decide +kernel
theorem dX7_slack_16 : decode cX7_slack 16 = .ok (.invokevirtual 237, 3) := by decide +kernel
theorem dX7_slack_19 : decode cX7_slack 19 = .ok (.goto 5, 3) := by decide +kernel
theorem dX7_slack_22 : decode cX7_slack 22 = .ok (.ldc 77, 2) := by decide +kernel
theorem dX7_slack_24 : decode cX7_slack 24 = .ok (.ireturn, 1) := by decide +kernel
theorem dX7_count_0 : decode cX7_count 0 = .ok (.iload_n 1, 1) := by decide +kernel
theorem dX7_count_1 : decode cX7_count 1 = .ok (.tableswitch 128 0 8 #[51, 59, 67, 76, 85, 96, 104, 112, 120], 51) := by decide +kernel
theorem dX7_count_52 : decode cX7_count 52 = .ok (.aload_n 0, 1) := by decide +kernel
theorem dX7_count_53 : decode cX7_count 53 = .ok (.getfield 10, 3) := by decide +kernel
theorem dX7_count_56 : decode cX7_count 56 = .ok (.getfield 211, 3) := by decide +kernel
theorem dX7_count_59 : decode cX7_count 59 = .ok (.ireturn, 1) := by decide +kernel
theorem dX7_count_60 : decode cX7_count 60 = .ok (.aload_n 0, 1) := by decide +kernel
theorem dX7_count_61 : decode cX7_count 61 = .ok (.getfield 10, 3) := by decide +kernel
theorem dX7_count_64 : decode cX7_count 64 = .ok (.getfield 200, 3) := by decide +kernel
theorem dX7_count_67 : decode cX7_count 67 = .ok (.ireturn, 1) := by decide +kernel
theorem dX7_count_68 : decode cX7_count 68 = .ok (.aload_n 0, 1) := by decide +kernel
theorem dX7_count_69 : decode cX7_count 69 = .ok (.getfield 10, 3) := by decide +kernel
theorem dX7_count_72 : decode cX7_count 72 = .ok (.iconst 0, 1) := by decide +kernel
theorem dX7_count_73 : decode cX7_count 73 = .ok (.invokevirtual 240, 3) := by decide +kernel
theorem dX7_count_76 : decode cX7_count 76 = .ok (.ireturn, 1) := by decide +kernel
theorem dX7_count_77 : decode cX7_count 77 = .ok (.aload_n 0, 1) := by decide +kernel
theorem dX7_count_78 : decode cX7_count 78 = .ok (.getfield 10, 3) := by decide +kernel
theorem dX7_count_81 : decode cX7_count 81 = .ok (.iconst 1, 1) := by decide +kernel
theorem dX7_count_82 : decode cX7_count 82 = .ok (.invokevirtual 240, 3) := by decide +kernel
theorem dX7_count_85 : decode cX7_count 85 = .ok (.ireturn, 1) := by decide +kernel
theorem dX7_count_86 : decode cX7_count 86 = .ok (.aload_n 0, 1) := by decide +kernel
theorem dX7_count_87 : decode cX7_count 87 = .ok (.getfield 10, 3) := by decide +kernel
theorem dX7_count_90 : decode cX7_count 90 = .ok (.invokevirtual 243, 3) := by decide +kernel
theorem dX7_count_93 : decode cX7_count 93 = .ok (.ldc 118, 2) := by decide +kernel
theorem dX7_count_95 : decode cX7_count 95 = .ok (.iadd, 1) := by decide +kernel
theorem dX7_count_96 : decode cX7_count 96 = .ok (.ireturn, 1) := by decide +kernel
theorem dX7_count_97 : decode cX7_count 97 = .ok (.aload_n 0, 1) := by decide +kernel
theorem dX7_count_98 : decode cX7_count 98 = .ok (.getfield 10, 3) := by decide +kernel
theorem dX7_count_101 : decode cX7_count 101 = .ok (.getfield 246, 3) := by decide +kernel
theorem dX7_count_104 : decode cX7_count 104 = .ok (.ireturn, 1) := by decide +kernel
theorem dX7_count_105 : decode cX7_count 105 = .ok (.aload_n 0, 1) := by decide +kernel
theorem dX7_count_106 : decode cX7_count 106 = .ok (.getfield 10, 3) := by decide +kernel
theorem dX7_count_109 : decode cX7_count 109 = .ok (.getfield 249, 3) := by decide +kernel
theorem dX7_count_112 : decode cX7_count 112 = .ok (.ireturn, 1) := by decide +kernel
theorem dX7_count_113 : decode cX7_count 113 = .ok (.aload_n 0, 1) := by decide +kernel
theorem dX7_count_114 : decode cX7_count 114 = .ok (.getfield 22, 3) := by decide +kernel
theorem dX7_count_117 : decode cX7_count 117 = .ok (.getfield 252, 3) := by decide +kernel
theorem dX7_count_120 : decode cX7_count 120 = .ok (.ireturn, 1) := by decide +kernel
theorem dX7_count_121 : decode cX7_count 121 = .ok (.aload_n 0, 1) := by decide +kernel
theorem dX7_count_122 : decode cX7_count 122 = .ok (.getfield 29, 3) := by decide +kernel
theorem dX7_count_125 : decode cX7_count 125 = .ok (.getfield 253, 3) := by decide +kernel
theorem dX7_count_128 : decode cX7_count 128 = .ok (.ireturn, 1) := by decide +kernel
theorem dX7_count_129 : decode cX7_count 129 = .ok (.ldc 77, 2) := by decide +kernel
theorem dX7_count_131 : decode cX7_count 131 = .ok (.ireturn, 1) := by decide +kernel
theorem dX7_undo_0 : decode cX7_undo 0 = .ok (.aload_n 0, 1) := by decide +kernel
theorem dX7_undo_1 : decode cX7_undo 1 = .ok (.getfield 22, 3) := by decide +kernel
theorem dX7_undo_4 : decode cX7_undo 4 = .ok (.aload_n 0, 1) := by decide +kernel
theorem dX7_undo_5 : decode cX7_undo 5 = .ok (.getfield 10, 3) := by decide +kernel
theorem dX7_undo_8 : decode cX7_undo 8 = .ok (.invokevirtual 256, 3) := by decide +kernel
theorem dX7_undo_11 : decode cX7_undo 11 = .ok (.ifCond .eq 13, 3) := by decide +kernel
theorem dX7_undo_14 : decode cX7_undo 14 = .ok (.aload_n 0, 1) := by decide +kernel
theorem dX7_undo_15 : decode cX7_undo 15 = .ok (.getfield 22, 3) := by decide +kernel
theorem dX7_undo_18 : decode cX7_undo 18 = .ok (.getfield 252, 3) := by decide +kernel
theorem dX7_undo_21 : decode cX7_undo 21 = .ok (.goto 5, 3) := by decide +kernel
theorem dX7_undo_24 : decode cX7_undo 24 = .ok (.ldc 210, 2) := by decide +kernel
theorem dX7_undo_26 : decode cX7_undo 26 = .ok (.ireturn, 1) := by decide +kernel
theorem dX7_type_0 : decode cX7_type 0 = .ok (.iload_n 1, 1) := by decide +kernel
theorem dX7_type_1 : decode cX7_type 1 = .ok (.bipush 32, 2) := by decide +kernel
theorem dX7_type_3 : decode cX7_type 3 = .ok (.bipush 126, 2) := by decide +kernel
theorem dX7_type_5 : decode cX7_type 5 = .ok (.invokestatic 156, 3) := by decide +kernel
theorem dX7_type_8 : decode cX7_type 8 = .ok (.ifCond .ne 6, 3) := by decide +kernel
theorem dX7_type_11 : decode cX7_type 11 = .ok (.ldc 77, 2) := by decide +kernel
theorem dX7_type_13 : decode cX7_type 13 = .ok (.ireturn, 1) := by decide +kernel
theorem dX7_type_14 : decode cX7_type 14 = .ok (.aload_n 0, 1) := by decide +kernel
theorem dX7_type_15 : decode cX7_type 15 = .ok (.getfield 29, 3) := by decide +kernel
theorem dX7_type_18 : decode cX7_type 18 = .ok (.iload_n 1, 1) := by decide +kernel
theorem dX7_type_19 : decode cX7_type 19 = .ok (.i2c, 1) := by decide +kernel
theorem dX7_type_20 : decode cX7_type 20 = .ok (.invokevirtual 260, 3) := by decide +kernel
theorem dX7_type_23 : decode cX7_type 23 = .ok (.ifCond .eq 13, 3) := by decide +kernel
theorem dX7_type_26 : decode cX7_type 26 = .ok (.aload_n 0, 1) := by decide +kernel
theorem dX7_type_27 : decode cX7_type 27 = .ok (.getfield 29, 3) := by decide +kernel
theorem dX7_type_30 : decode cX7_type 30 = .ok (.getfield 253, 3) := by decide +kernel
theorem dX7_type_33 : decode cX7_type 33 = .ok (.goto 6, 3) := by decide +kernel
theorem dX7_type_36 : decode cX7_type 36 = .ok (.ldc_w 264, 3) := by decide +kernel
theorem dX7_type_39 : decode cX7_type 39 = .ok (.ireturn, 1) := by decide +kernel
theorem dX7_clearText_0 : decode cX7_clearText 0 = .ok (.aload_n 0, 1) := by decide +kernel
theorem dX7_clearText_1 : decode cX7_clearText 1 = .ok (.getfield 29, 3) := by decide +kernel
theorem dX7_clearText_4 : decode cX7_clearText 4 = .ok (.getfield 253, 3) := by decide +kernel
theorem dX7_clearText_7 : decode cX7_clearText 7 = .ok (.istore_n 1, 1) := by decide +kernel
theorem dX7_clearText_8 : decode cX7_clearText 8 = .ok (.aload_n 0, 1) := by decide +kernel
theorem dX7_clearText_9 : decode cX7_clearText 9 = .ok (.getfield 29, 3) := by decide +kernel
theorem dX7_clearText_12 : decode cX7_clearText 12 = .ok (.iconst 0, 1) := by decide +kernel
theorem dX7_clearText_13 : decode cX7_clearText 13 = .ok (.putfield 253, 3) := by decide +kernel
theorem dX7_clearText_16 : decode cX7_clearText 16 = .ok (.iload_n 1, 1) := by decide +kernel
theorem dX7_clearText_17 : decode cX7_clearText 17 = .ok (.ireturn, 1) := by decide +kernel
theorem dX7_fault_0 : decode cX7_fault 0 = .ok (.iload_n 1, 1) := by decide +kernel
theorem dX7_fault_1 : decode cX7_fault 1 = .ok (.iconst 0, 1) := by decide +kernel
theorem dX7_fault_2 : decode cX7_fault 2 = .ok (.iconst 2, 1) := by decide +kernel
theorem dX7_fault_3 : decode cX7_fault 3 = .ok (.invokestatic 156, 3) := by decide +kernel
theorem dX7_fault_6 : decode cX7_fault 6 = .ok (.ifCond .ne 6, 3) := by decide +kernel
theorem dX7_fault_9 : decode cX7_fault 9 = .ok (.ldc 77, 2) := by decide +kernel
theorem dX7_fault_11 : decode cX7_fault 11 = .ok (.ireturn, 1) := by decide +kernel
theorem dX7_fault_12 : decode cX7_fault 12 = .ok (.aload_n 0, 1) := by decide +kernel
theorem dX7_fault_13 : decode cX7_fault 13 = .ok (.invokevirtual 265, 3) := by decide +kernel
theorem dX7_fault_16 : decode cX7_fault 16 = .ok (.ifCond .eq 6, 3) := by decide +kernel
theorem dX7_fault_19 : decode cX7_fault 19 = .ok (.ldc 155, 2) := by decide +kernel
theorem dX7_fault_21 : decode cX7_fault 21 = .ok (.ireturn, 1) := by decide +kernel
theorem dX7_fault_22 : decode cX7_fault 22 = .ok (.iload_n 1, 1) := by decide +kernel
theorem dX7_fault_23 : decode cX7_fault 23 = .ok (.lookupswitch 41 #[(0, 25), (1, 33)], 25) := by decide +kernel
theorem dX7_fault_48 : decode cX7_fault 48 = .ok (.aload_n 0, 1) := by decide +kernel
theorem dX7_fault_49 : decode cX7_fault 49 = .ok (.getfield 36, 3) := by decide +kernel
theorem dX7_fault_52 : decode cX7_fault 52 = .ok (.getfield 268, 3) := by decide +kernel
theorem dX7_fault_55 : decode cX7_fault 55 = .ok (.ireturn, 1) := by decide +kernel
theorem dX7_fault_56 : decode cX7_fault 56 = .ok (.aload_n 0, 1) := by decide +kernel
theorem dX7_fault_57 : decode cX7_fault 57 = .ok (.getfield 36, 3) := by decide +kernel
theorem dX7_fault_60 : decode cX7_fault 60 = .ok (.getfield 271, 3) := by decide +kernel
theorem dX7_fault_63 : decode cX7_fault 63 = .ok (.ireturn, 1) := by decide +kernel
theorem dX7_fault_64 : decode cX7_fault 64 = .ok (.aload_n 0, 1) := by decide +kernel
theorem dX7_fault_65 : decode cX7_fault 65 = .ok (.getfield 36, 3) := by decide +kernel
theorem dX7_fault_68 : decode cX7_fault 68 = .ok (.getfield 274, 3) := by decide +kernel
theorem dX7_fault_71 : decode cX7_fault 71 = .ok (.ireturn, 1) := by decide +kernel
theorem dX7_play_0 : decode cX7_play 0 = .ok (.aload_n 0, 1) := by decide +kernel
theorem dX7_play_1 : decode cX7_play 1 = .ok (.invokevirtual 265, 3) := by decide +kernel
theorem dX7_play_4 : decode cX7_play 4 = .ok (.ifCond .eq 17, 3) := by decide +kernel
theorem dX7_play_7 : decode cX7_play 7 = .ok (.aload_n 0, 1) := by decide +kernel
theorem dX7_play_8 : decode cX7_play 8 = .ok (.aload_n 0, 1) := by decide +kernel
theorem dX7_play_9 : decode cX7_play 9 = .ok (.getfield 36, 3) := by decide +kernel
theorem dX7_play_12 : decode cX7_play 12 = .ok (.getfield 277, 3) := by decide +kernel
theorem dX7_play_15 : decode cX7_play 15 = .ok (.invokevirtual 48, 3) := by decide +kernel
theorem dX7_play_18 : decode cX7_play 18 = .ok (.goto 5, 3) := by decide +kernel
theorem dX7_play_21 : decode cX7_play 21 = .ok (.ldc 210, 2) := by decide +kernel
theorem dX7_play_23 : decode cX7_play 23 = .ok (.ireturn, 1) := by decide +kernel
theorem dX7_freshTrial_0 : decode cX7_freshTrial 0 = .ok (.aload_n 0, 1) := by decide +kernel
theorem dX7_freshTrial_1 : decode cX7_freshTrial 1 = .ok (.getfield 16, 3) := by decide +kernel
theorem dX7_freshTrial_4 : decode cX7_freshTrial 4 = .ok (.aload_n 0, 1) := by decide +kernel
theorem dX7_freshTrial_5 : decode cX7_freshTrial 5 = .ok (.getfield 10, 3) := by decide +kernel
theorem dX7_freshTrial_8 : decode cX7_freshTrial 8 = .ok (.invokevirtual 280, 3) := by decide +kernel
theorem dX7_freshTrial_11 : decode cX7_freshTrial 11 = .ok (.aload_n 0, 1) := by decide +kernel
theorem dX7_freshTrial_12 : decode cX7_freshTrial 12 = .ok (.getfield 16, 3) := by decide +kernel
theorem dX7_freshTrial_15 : decode cX7_freshTrial 15 = .ok (.areturn, 1) := by decide +kernel
theorem dX7_keep_0 : decode cX7_keep 0 = .ok (.iload_n 1, 1) := by decide +kernel
theorem dX7_keep_1 : decode cX7_keep 1 = .ok (.invokestatic 284, 3) := by decide +kernel
theorem dX7_keep_4 : decode cX7_keep 4 = .ok (.ifCond .ne 25, 3) := by decide +kernel
theorem dX7_keep_7 : decode cX7_keep 7 = .ok (.aload_n 0, 1) := by decide +kernel
theorem dX7_keep_8 : decode cX7_keep 8 = .ok (.getfield 22, 3) := by decide +kernel
theorem dX7_keep_11 : decode cX7_keep 11 = .ok (.aload_n 0, 1) := by decide +kernel
theorem dX7_keep_12 : decode cX7_keep 12 = .ok (.getfield 10, 3) := by decide +kernel
theorem dX7_keep_15 : decode cX7_keep 15 = .ok (.invokevirtual 287, 3) := by decide +kernel
theorem dX7_keep_18 : decode cX7_keep 18 = .ok (.aload_n 0, 1) := by decide +kernel
theorem dX7_keep_19 : decode cX7_keep 19 = .ok (.getfield 10, 3) := by decide +kernel
theorem dX7_keep_22 : decode cX7_keep 22 = .ok (.aload_n 0, 1) := by decide +kernel
theorem dX7_keep_23 : decode cX7_keep 23 = .ok (.getfield 16, 3) := by decide +kernel
theorem dX7_keep_26 : decode cX7_keep 26 = .ok (.invokevirtual 280, 3) := by decide +kernel
theorem dX7_keep_29 : decode cX7_keep 29 = .ok (.iload_n 1, 1) := by decide +kernel
theorem dX7_keep_30 : decode cX7_keep 30 = .ok (.ireturn, 1) := by decide +kernel
theorem dX7_tryOrders_0 : decode cX7_tryOrders 0 = .ok (.aload_n 0, 1) := by decide +kernel
theorem dX7_tryOrders_1 : decode cX7_tryOrders 1 = .ok (.invokevirtual 40, 3) := by decide +kernel
theorem dX7_tryOrders_4 : decode cX7_tryOrders 4 = .ok (.pop, 1) := by decide +kernel
theorem dX7_tryOrders_5 : decode cX7_tryOrders 5 = .ok (.aload_n 0, 1) := by decide +kernel
theorem dX7_tryOrders_6 : decode cX7_tryOrders 6 = .ok (.getfield 36, 3) := by decide +kernel
theorem dX7_tryOrders_9 : decode cX7_tryOrders 9 = .ok (.iconst 0, 1) := by decide +kernel
theorem dX7_tryOrders_10 : decode cX7_tryOrders 10 = .ok (.putfield 277, 3) := by decide +kernel
theorem dX7_tryOrders_13 : decode cX7_tryOrders 13 = .ok (.iconst 0, 1) := by decide +kernel
theorem dX7_tryOrders_14 : decode cX7_tryOrders 14 = .ok (.istore_n 1, 1) := by decide +kernel
theorem dX7_tryOrders_15 : decode cX7_tryOrders 15 = .ok (.iload_n 1, 1) := by decide +kernel
theorem dX7_tryOrders_16 : decode cX7_tryOrders 16 = .ok (.aload_n 0, 1) := by decide +kernel
theorem dX7_tryOrders_17 : decode cX7_tryOrders 17 = .ok (.getfield 29, 3) := by decide +kernel
theorem dX7_tryOrders_20 : decode cX7_tryOrders 20 = .ok (.getfield 253, 3) := by decide +kernel
theorem dX7_tryOrders_23 : decode cX7_tryOrders 23 = .ok (.if_icmp .ge 108, 3) := by decide +kernel
theorem dX7_tryOrders_26 : decode cX7_tryOrders 26 = .ok (.aload_n 0, 1) := by decide +kernel
theorem dX7_tryOrders_27 : decode cX7_tryOrders 27 = .ok (.getfield 36, 3) := by decide +kernel
theorem dX7_tryOrders_30 : decode cX7_tryOrders 30 = .ok (.getfield 277, 3) := by decide +kernel
theorem dX7_tryOrders_33 : decode cX7_tryOrders 33 = .ok (.bipush 60, 2) := by decide +kernel
theorem dX7_tryOrders_35 : decode cX7_tryOrders 35 = .ok (.if_icmp .ge 96, 3) := by decide +kernel
theorem dX7_tryOrders_38 : decode cX7_tryOrders 38 = .ok (.aload_n 0, 1) := by decide +kernel
theorem dX7_tryOrders_39 : decode cX7_tryOrders 39 = .ok (.getfield 29, 3) := by decide +kernel
theorem dX7_tryOrders_42 : decode cX7_tryOrders 42 = .ok (.iload_n 1, 1) := by decide +kernel
theorem dX7_tryOrders_43 : decode cX7_tryOrders 43 = .ok (.invokevirtual 290, 3) := by decide +kernel
theorem dX7_tryOrders_46 : decode cX7_tryOrders 46 = .ok (.ifCond .ne 23, 3) := by decide +kernel
theorem dX7_tryOrders_49 : decode cX7_tryOrders 49 = .ok (.aload_n 0, 1) := by decide +kernel
theorem dX7_tryOrders_50 : decode cX7_tryOrders 50 = .ok (.getfield 36, 3) := by decide +kernel
theorem dX7_tryOrders_53 : decode cX7_tryOrders 53 = .ok (.iload_n 1, 1) := by decide +kernel
theorem dX7_tryOrders_54 : decode cX7_tryOrders 54 = .ok (.iconst 1, 1) := by decide +kernel
theorem dX7_tryOrders_55 : decode cX7_tryOrders 55 = .ok (.aload_n 0, 1) := by decide +kernel
theorem dX7_tryOrders_56 : decode cX7_tryOrders 56 = .ok (.getfield 29, 3) := by decide +kernel
theorem dX7_tryOrders_59 : decode cX7_tryOrders 59 = .ok (.getfield 293, 3) := by decide +kernel
theorem dX7_tryOrders_62 : decode cX7_tryOrders 62 = .ok (.iload_n 1, 1) := by decide +kernel
theorem dX7_tryOrders_63 : decode cX7_tryOrders 63 = .ok (.isub, 1) := by decide +kernel
theorem dX7_tryOrders_64 : decode cX7_tryOrders 64 = .ok (.invokevirtual 296, 3) := by decide +kernel
theorem dX7_tryOrders_67 : decode cX7_tryOrders 67 = .ok (.iconst 0, 1) := by decide +kernel
theorem dX7_tryOrders_68 : decode cX7_tryOrders 68 = .ok (.ireturn, 1) := by decide +kernel
theorem dX7_tryOrders_69 : decode cX7_tryOrders 69 = .ok (.aload_n 0, 1) := by decide +kernel
theorem dX7_tryOrders_70 : decode cX7_tryOrders 70 = .ok (.aload_n 0, 1) := by decide +kernel
theorem dX7_tryOrders_71 : decode cX7_tryOrders 71 = .ok (.getfield 29, 3) := by decide +kernel
theorem dX7_tryOrders_74 : decode cX7_tryOrders 74 = .ok (.getfield 300, 3) := by decide +kernel
theorem dX7_tryOrders_77 : decode cX7_tryOrders 77 = .ok (.aload_n 0, 1) := by decide +kernel
theorem dX7_tryOrders_78 : decode cX7_tryOrders 78 = .ok (.getfield 29, 3) := by decide +kernel
theorem dX7_tryOrders_81 : decode cX7_tryOrders 81 = .ok (.getfield 304, 3) := by decide +kernel
theorem dX7_tryOrders_84 : decode cX7_tryOrders 84 = .ok (.invokevirtual 307, 3) := by decide +kernel
theorem dX7_tryOrders_87 : decode cX7_tryOrders 87 = .ok (.istore_n 2, 1) := by decide +kernel
theorem dX7_tryOrders_88 : decode cX7_tryOrders 88 = .ok (.iload_n 2, 1) := by decide +kernel
theorem dX7_tryOrders_89 : decode cX7_tryOrders 89 = .ok (.invokestatic 284, 3) := by decide +kernel
theorem dX7_tryOrders_92 : decode cX7_tryOrders 92 = .ok (.ifCond .eq 15, 3) := by decide +kernel
theorem dX7_tryOrders_95 : decode cX7_tryOrders 95 = .ok (.aload_n 0, 1) := by decide +kernel
theorem dX7_tryOrders_96 : decode cX7_tryOrders 96 = .ok (.getfield 36, 3) := by decide +kernel
theorem dX7_tryOrders_99 : decode cX7_tryOrders 99 = .ok (.iload_n 1, 1) := by decide +kernel
theorem dX7_tryOrders_100 : decode cX7_tryOrders 100 = .ok (.iconst 2, 1) := by decide +kernel
theorem dX7_tryOrders_101 : decode cX7_tryOrders 101 = .ok (.iload_n 2, 1) := by decide +kernel
theorem dX7_tryOrders_102 : decode cX7_tryOrders 102 = .ok (.invokevirtual 296, 3) := by decide +kernel
theorem dX7_tryOrders_105 : decode cX7_tryOrders 105 = .ok (.iconst 0, 1) := by decide +kernel
theorem dX7_tryOrders_106 : decode cX7_tryOrders 106 = .ok (.ireturn, 1) := by decide +kernel
theorem dX7_tryOrders_107 : decode cX7_tryOrders 107 = .ok (.aload_n 0, 1) := by decide +kernel
theorem dX7_tryOrders_108 : decode cX7_tryOrders 108 = .ok (.getfield 36, 3) := by decide +kernel
theorem dX7_tryOrders_111 : decode cX7_tryOrders 111 = .ok (.dup, 1) := by decide +kernel
theorem dX7_tryOrders_112 : decode cX7_tryOrders 112 = .ok (.getfield 277, 3) := by decide +kernel
theorem dX7_tryOrders_115 : decode cX7_tryOrders 115 = .ok (.iconst 1, 1) := by decide +kernel
theorem dX7_tryOrders_116 : decode cX7_tryOrders 116 = .ok (.iadd, 1) := by decide +kernel
theorem dX7_tryOrders_117 : decode cX7_tryOrders 117 = .ok (.putfield 277, 3) := by decide +kernel
theorem dX7_tryOrders_120 : decode cX7_tryOrders 120 = .ok (.aload_n 0, 1) := by decide +kernel
theorem dX7_tryOrders_121 : decode cX7_tryOrders 121 = .ok (.getfield 29, 3) := by decide +kernel
theorem dX7_tryOrders_124 : decode cX7_tryOrders 124 = .ok (.getfield 293, 3) := by decide +kernel
theorem dX7_tryOrders_127 : decode cX7_tryOrders 127 = .ok (.istore_n 1, 1) := by decide +kernel
theorem dX7_tryOrders_128 : decode cX7_tryOrders 128 = .ok (.goto (-113), 3) := by decide +kernel
theorem dX7_tryOrders_131 : decode cX7_tryOrders 131 = .ok (.iconst 1, 1) := by decide +kernel
theorem dX7_tryOrders_132 : decode cX7_tryOrders 132 = .ok (.ireturn, 1) := by decide +kernel
theorem dX7_obey_0 : decode cX7_obey 0 = .ok (.iload_n 1, 1) := by decide +kernel
theorem dX7_obey_1 : decode cX7_obey 1 = .ok (.lookupswitch 120 #[(99, 66), (100, 106), (102, 92), (115, 43)], 43) := by decide +kernel
theorem dX7_obey_44 : decode cX7_obey 44 = .ok (.aload_n 0, 1) := by decide +kernel
theorem dX7_obey_45 : decode cX7_obey 45 = .ok (.getfield 16, 3) := by decide +kernel
theorem dX7_obey_48 : decode cX7_obey 48 = .ok (.aload_n 2, 1) := by decide +kernel
theorem dX7_obey_49 : decode cX7_obey 49 = .ok (.iconst 0, 1) := by decide +kernel
theorem dX7_obey_50 : decode cX7_obey 50 = .ok (.iaload, 1) := by decide +kernel
theorem dX7_obey_51 : decode cX7_obey 51 = .ok (.aload_n 2, 1) := by decide +kernel
theorem dX7_obey_52 : decode cX7_obey 52 = .ok (.iconst 1, 1) := by decide +kernel
theorem dX7_obey_53 : decode cX7_obey 53 = .ok (.iaload, 1) := by decide +kernel
theorem dX7_obey_54 : decode cX7_obey 54 = .ok (.aload_n 2, 1) := by decide +kernel
theorem dX7_obey_55 : decode cX7_obey 55 = .ok (.iconst 2, 1) := by decide +kernel
theorem dX7_obey_56 : decode cX7_obey 56 = .ok (.iaload, 1) := by decide +kernel
theorem dX7_obey_57 : decode cX7_obey 57 = .ok (.aload_n 2, 1) := by decide +kernel
theorem dX7_obey_58 : decode cX7_obey 58 = .ok (.iconst 3, 1) := by decide +kernel
theorem dX7_obey_59 : decode cX7_obey 59 = .ok (.iaload, 1) := by decide +kernel
theorem dX7_obey_60 : decode cX7_obey 60 = .ok (.aload_n 2, 1) := by decide +kernel
theorem dX7_obey_61 : decode cX7_obey 61 = .ok (.iconst 4, 1) := by decide +kernel
theorem dX7_obey_62 : decode cX7_obey 62 = .ok (.iaload, 1) := by decide +kernel
theorem dX7_obey_63 : decode cX7_obey 63 = .ok (.invokevirtual 52, 3) := by decide +kernel
theorem dX7_obey_66 : decode cX7_obey 66 = .ok (.ireturn, 1) := by decide +kernel
theorem dX7_obey_67 : decode cX7_obey 67 = .ok (.aload_n 0, 1) := by decide +kernel
theorem dX7_obey_68 : decode cX7_obey 68 = .ok (.getfield 16, 3) := by decide +kernel
theorem dX7_obey_71 : decode cX7_obey 71 = .ok (.aload_n 2, 1) := by decide +kernel
theorem dX7_obey_72 : decode cX7_obey 72 = .ok (.iconst 0, 1) := by decide +kernel
theorem dX7_obey_73 : decode cX7_obey 73 = .ok (.iaload, 1) := by decide +kernel
theorem dX7_obey_74 : decode cX7_obey 74 = .ok (.aload_n 2, 1) := by decide +kernel
theorem dX7_obey_75 : decode cX7_obey 75 = .ok (.iconst 1, 1) := by decide +kernel
theorem dX7_obey_76 : decode cX7_obey 76 = .ok (.iaload, 1) := by decide +kernel
theorem dX7_obey_77 : decode cX7_obey 77 = .ok (.aload_n 2, 1) := by decide +kernel
theorem dX7_obey_78 : decode cX7_obey 78 = .ok (.iconst 2, 1) := by decide +kernel
theorem dX7_obey_79 : decode cX7_obey 79 = .ok (.iaload, 1) := by decide +kernel
theorem dX7_obey_80 : decode cX7_obey 80 = .ok (.aload_n 2, 1) := by decide +kernel
theorem dX7_obey_81 : decode cX7_obey 81 = .ok (.iconst 3, 1) := by decide +kernel
theorem dX7_obey_82 : decode cX7_obey 82 = .ok (.iaload, 1) := by decide +kernel
theorem dX7_obey_83 : decode cX7_obey 83 = .ok (.aload_n 2, 1) := by decide +kernel
theorem dX7_obey_84 : decode cX7_obey 84 = .ok (.iconst 4, 1) := by decide +kernel
theorem dX7_obey_85 : decode cX7_obey 85 = .ok (.iaload, 1) := by decide +kernel
theorem dX7_obey_86 : decode cX7_obey 86 = .ok (.aload_n 2, 1) := by decide +kernel
theorem dX7_obey_87 : decode cX7_obey 87 = .ok (.iconst 5, 1) := by decide +kernel
theorem dX7_obey_88 : decode cX7_obey 88 = .ok (.iaload, 1) := by decide +kernel
theorem dX7_obey_89 : decode cX7_obey 89 = .ok (.invokevirtual 56, 3) := by decide +kernel
theorem dX7_obey_92 : decode cX7_obey 92 = .ok (.ireturn, 1) := by decide +kernel
theorem dX7_obey_93 : decode cX7_obey 93 = .ok (.aload_n 0, 1) := by decide +kernel
theorem dX7_obey_94 : decode cX7_obey 94 = .ok (.getfield 16, 3) := by decide +kernel
theorem dX7_obey_97 : decode cX7_obey 97 = .ok (.aload_n 2, 1) := by decide +kernel
theorem dX7_obey_98 : decode cX7_obey 98 = .ok (.iconst 0, 1) := by decide +kernel
theorem dX7_obey_99 : decode cX7_obey 99 = .ok (.iaload, 1) := by decide +kernel
theorem dX7_obey_100 : decode cX7_obey 100 = .ok (.aload_n 2, 1) := by decide +kernel
theorem dX7_obey_101 : decode cX7_obey 101 = .ok (.iconst 1, 1) := by decide +kernel
theorem dX7_obey_102 : decode cX7_obey 102 = .ok (.iaload, 1) := by decide +kernel
theorem dX7_obey_103 : decode cX7_obey 103 = .ok (.invokevirtual 60, 3) := by decide +kernel
theorem dX7_obey_106 : decode cX7_obey 106 = .ok (.ireturn, 1) := by decide +kernel
theorem dX7_obey_107 : decode cX7_obey 107 = .ok (.aload_n 0, 1) := by decide +kernel
theorem dX7_obey_108 : decode cX7_obey 108 = .ok (.getfield 16, 3) := by decide +kernel
theorem dX7_obey_111 : decode cX7_obey 111 = .ok (.aload_n 2, 1) := by decide +kernel
theorem dX7_obey_112 : decode cX7_obey 112 = .ok (.iconst 0, 1) := by decide +kernel
theorem dX7_obey_113 : decode cX7_obey 113 = .ok (.iaload, 1) := by decide +kernel
theorem dX7_obey_114 : decode cX7_obey 114 = .ok (.aload_n 2, 1) := by decide +kernel
theorem dX7_obey_115 : decode cX7_obey 115 = .ok (.iconst 1, 1) := by decide +kernel
theorem dX7_obey_116 : decode cX7_obey 116 = .ok (.iaload, 1) := by decide +kernel
theorem dX7_obey_117 : decode cX7_obey 117 = .ok (.invokevirtual 64, 3) := by decide +kernel
theorem dX7_obey_120 : decode cX7_obey 120 = .ok (.ireturn, 1) := by decide +kernel
theorem dX7_obey_121 : decode cX7_obey 121 = .ok (.ldc 77, 2) := by decide +kernel
theorem dX7_obey_123 : decode cX7_obey 123 = .ok (.ireturn, 1) := by decide +kernel
theorem dX7_isIn_0 : decode cX7_isIn 0 = .ok (.iload_n 0, 1) := by decide +kernel
theorem dX7_isIn_1 : decode cX7_isIn 1 = .ok (.iload_n 1, 1) := by decide +kernel
theorem dX7_isIn_2 : decode cX7_isIn 2 = .ok (.if_icmp .lt 12, 3) := by decide +kernel
theorem dX7_isIn_5 : decode cX7_isIn 5 = .ok (.iload_n 0, 1) := by decide +kernel
theorem dX7_isIn_6 : decode cX7_isIn 6 = .ok (.iload_n 2, 1) := by decide +kernel
theorem dX7_isIn_7 : decode cX7_isIn 7 = .ok (.if_icmp .gt 7, 3) := by decide +kernel
theorem dX7_isIn_10 : decode cX7_isIn 10 = .ok (.iconst 1, 1) := by decide +kernel
theorem dX7_isIn_11 : decode cX7_isIn 11 = .ok (.goto 4, 3) := by decide +kernel
theorem dX7_isIn_14 : decode cX7_isIn 14 = .ok (.iconst 0, 1) := by decide +kernel
theorem dX7_isIn_15 : decode cX7_isIn 15 = .ok (.ireturn, 1) := by decide +kernel
theorem dX7_isPort_0 : decode cX7_isPort 0 = .ok (.iload_n 0, 1) := by decide +kernel
theorem dX7_isPort_1 : decode cX7_isPort 1 = .ok (.iconst 0, 1) := by decide +kernel
theorem dX7_isPort_2 : decode cX7_isPort 2 = .ok (.bipush 7, 2) := by decide +kernel
theorem dX7_isPort_4 : decode cX7_isPort 4 = .ok (.invokestatic 156, 3) := by decide +kernel
theorem dX7_isPort_7 : decode cX7_isPort 7 = .ok (.ireturn, 1) := by decide +kernel
theorem dX7_isError_0 : decode cX7_isError 0 = .ok (.iload_n 0, 1) := by decide +kernel
theorem dX7_isError_1 : decode cX7_isError 1 = .ok (.ldc 155, 2) := by decide +kernel
theorem dX7_isError_3 : decode cX7_isError 3 = .ok (.ldc 77, 2) := by decide +kernel
theorem dX7_isError_5 : decode cX7_isError 5 = .ok (.invokestatic 156, 3) := by decide +kernel
theorem dX7_isError_8 : decode cX7_isError 8 = .ok (.ireturn, 1) := by decide +kernel
theorem dX7_divideUp_0 : decode cX7_divideUp 0 = .ok (.iload_n 1, 1) := by decide +kernel
theorem dX7_divideUp_1 : decode cX7_divideUp 1 = .ok (.iconst 1, 1) := by decide +kernel
theorem dX7_divideUp_2 : decode cX7_divideUp 2 = .ok (.if_icmp .ge 7, 3) := by decide +kernel
theorem dX7_divideUp_5 : decode cX7_divideUp 5 = .ok (.iconst 0, 1) := by decide +kernel
theorem dX7_divideUp_6 : decode cX7_divideUp 6 = .ok (.goto 10, 3) := by decide +kernel
theorem dX7_divideUp_9 : decode cX7_divideUp 9 = .ok (.iload_n 0, 1) := by decide +kernel
theorem dX7_divideUp_10 : decode cX7_divideUp 10 = .ok (.iload_n 1, 1) := by decide +kernel
theorem dX7_divideUp_11 : decode cX7_divideUp 11 = .ok (.iadd, 1) := by decide +kernel
theorem dX7_divideUp_12 : decode cX7_divideUp 12 = .ok (.iconst 1, 1) := by decide +kernel
theorem dX7_divideUp_13 : decode cX7_divideUp 13 = .ok (.isub, 1) := by decide +kernel
theorem dX7_divideUp_14 : decode cX7_divideUp 14 = .ok (.iload_n 1, 1) := by decide +kernel
theorem dX7_divideUp_15 : decode cX7_divideUp 15 = .ok (.idiv, 1) := by decide +kernel
theorem dX7_divideUp_16 : decode cX7_divideUp 16 = .ok (.ireturn, 1) := by decide +kernel
end
section
theorem dX8_init_0 : decode cX8_init 0 = .ok (.aload_n 0, 1) := by decide +kernel
theorem dX8_init_1 : decode cX8_init 1 = .ok (.invokespecial 1, 3) := by decide +kernel
theorem dX8_init_4 : decode cX8_init 4 = .ok (.aload_n 0, 1) := by decide +kernel
theorem dX8_init_5 : decode cX8_init 5 = .ok (.sipush 1330, 3) := by decide +kernel
theorem dX8_init_8 : decode cX8_init 8 = .ok (.newarray .int, 2) := by decide +kernel
theorem dX8_init_10 : decode cX8_init 10 = .ok (.putfield 7, 3) := by decide +kernel
theorem dX8_init_13 : decode cX8_init 13 = .ok (.aload_n 0, 1) := by decide +kernel
theorem dX8_init_14 : decode cX8_init 14 = .ok (.bipush 60, 2) := by decide +kernel
theorem dX8_init_16 : decode cX8_init 16 = .ok (.newarray .char, 2) := by decide +kernel
theorem dX8_init_18 : decode cX8_init 18 = .ok (.putfield 13, 3) := by decide +kernel
theorem dX8_init_21 : decode cX8_init 21 = .ok (.aload_n 0, 1) := by decide +kernel
theorem dX8_init_22 : decode cX8_init 22 = .ok (.bipush 6, 2) := by decide +kernel
theorem dX8_init_24 : decode cX8_init 24 = .ok (.newarray .int, 2) := by decide +kernel
theorem dX8_init_26 : decode cX8_init 26 = .ok (.putfield 17, 3) := by decide +kernel
theorem dX8_init_29 : decode cX8_init 29 = .ok (.iconst 0, 1) := by decide +kernel
theorem dX8_init_30 : decode cX8_init 30 = .ok (.istore_n 1, 1) := by decide +kernel
theorem dX8_init_31 : decode cX8_init 31 = .ok (.iload_n 1, 1) := by decide +kernel
theorem dX8_init_32 : decode cX8_init 32 = .ok (.bipush 8, 2) := by decide +kernel
theorem dX8_init_34 : decode cX8_init 34 = .ok (.if_icmp .ge 40, 3) := by decide +kernel
theorem dX8_init_37 : decode cX8_init 37 = .ok (.aload_n 0, 1) := by decide +kernel
theorem dX8_init_38 : decode cX8_init 38 = .ok (.getfield 7, 3) := by decide +kernel
theorem dX8_init_41 : decode cX8_init 41 = .ok (.iconst 0, 1) := by decide +kernel
theorem dX8_init_42 : decode cX8_init 42 = .ok (.iconst 2, 1) := by decide +kernel
theorem dX8_init_43 : decode cX8_init 43 = .ok (.iload_n 1, 1) := by decide +kernel
theorem dX8_init_44 : decode cX8_init 44 = .ok (.imul, 1) := by decide +kernel
theorem dX8_init_45 : decode cX8_init 45 = .ok (.iadd, 1) := by decide +kernel
theorem dX8_init_46 : decode cX8_init 46 = .ok (.bipush 10, 2) := by decide +kernel
theorem dX8_init_48 : decode cX8_init 48 = .ok (.iload_n 1, 1) := by decide +kernel
theorem dX8_init_49 : decode cX8_init 49 = .ok (.imul, 1) := by decide +kernel
theorem dX8_init_50 : decode cX8_init 50 = .ok (.iastore, 1) := by decide +kernel
theorem dX8_init_51 : decode cX8_init 51 = .ok (.aload_n 0, 1) := by decide +kernel
theorem dX8_init_52 : decode cX8_init 52 = .ok (.getfield 7, 3) := by decide +kernel
theorem dX8_init_55 : decode cX8_init 55 = .ok (.iconst 0, 1) := by decide +kernel
theorem dX8_init_56 : decode cX8_init 56 = .ok (.iconst 2, 1) := by decide +kernel
theorem dX8_init_57 : decode cX8_init 57 = .ok (.iload_n 1, 1) := by decide +kernel
theorem dX8_init_58 : decode cX8_init 58 = .ok (.imul, 1) := by decide +kernel
theorem dX8_init_59 : decode cX8_init 59 = .ok (.iadd, 1) := by decide +kernel
theorem dX8_init_60 : decode cX8_init 60 = .ok (.iconst 1, 1) := by decide +kernel
theorem dX8_init_61 : decode cX8_init 61 = .ok (.iadd, 1) := by decide +kernel
theorem dX8_init_62 : decode cX8_init 62 = .ok (.iconst 5, 1) := by decide +kernel
theorem dX8_init_63 : decode cX8_init 63 = .ok (.iload_n 1, 1) := by decide +kernel
theorem dX8_init_64 : decode cX8_init 64 = .ok (.iconst 3, 1) := by decide +kernel
theorem dX8_init_65 : decode cX8_init 65 = .ok (.irem, 1) := by decide +kernel
theorem dX8_init_66 : decode cX8_init 66 = .ok (.imul, 1) := by decide +kernel
theorem dX8_init_67 : decode cX8_init 67 = .ok (.iastore, 1) := by decide +kernel
theorem dX8_init_68 : decode cX8_init 68 = .ok (.iinc 1 1, 3) := by decide +kernel
theorem dX8_init_71 : decode cX8_init 71 = .ok (.goto (-40), 3) := by decide +kernel
theorem dX8_init_74 : decode cX8_init 74 = .ok (.return_, 1) := by decide +kernel
theorem dX8_in_0 : decode cX8_in 0 = .ok (.iload_n 0, 1) := by decide +kernel
theorem dX8_in_1 : decode cX8_in 1 = .ok (.iload_n 1, 1) := by decide +kernel
theorem dX8_in_2 : decode cX8_in 2 = .ok (.if_icmp .lt 12, 3) := by decide +kernel
theorem dX8_in_5 : decode cX8_in 5 = .ok (.iload_n 0, 1) := by decide +kernel
theorem dX8_in_6 : decode cX8_in 6 = .ok (.iload_n 2, 1) := by decide +kernel
theorem dX8_in_7 : decode cX8_in 7 = .ok (.if_icmp .gt 7, 3) := by decide +kernel
theorem dX8_in_10 : decode cX8_in 10 = .ok (.iconst 1, 1) := by decide +kernel
theorem dX8_in_11 : decode cX8_in 11 = .ok (.goto 4, 3) := by decide +kernel
theorem dX8_in_14 : decode cX8_in 14 = .ok (.iconst 0, 1) := by decide +kernel
theorem dX8_in_15 : decode cX8_in 15 = .ok (.ireturn, 1) := by decide +kernel
theorem dX8_copies_0 : decode cX8_copies 0 = .ok (.iconst 0, 1) := by decide +kernel
theorem dX8_copies_1 : decode cX8_copies 1 = .ok (.istore_n 3, 1) := by decide +kernel
theorem dX8_copies_2 : decode cX8_copies 2 = .ok (.iload_n 3, 1) := by decide +kernel
theorem dX8_copies_3 : decode cX8_copies 3 = .ok (.sipush 190, 3) := by decide +kernel
theorem dX8_copies_6 : decode cX8_copies 6 = .ok (.if_icmp .ge 33, 3) := by decide +kernel
theorem dX8_copies_9 : decode cX8_copies 9 = .ok (.aload_n 0, 1) := by decide +kernel
theorem dX8_copies_10 : decode cX8_copies 10 = .ok (.getfield 7, 3) := by decide +kernel
theorem dX8_copies_13 : decode cX8_copies 13 = .ok (.sipush 190, 3) := by decide +kernel
theorem dX8_copies_16 : decode cX8_copies 16 = .ok (.iload_n 2, 1) := by decide +kernel
theorem dX8_copies_17 : decode cX8_copies 17 = .ok (.imul, 1) := by decide +kernel
theorem dX8_copies_18 : decode cX8_copies 18 = .ok (.iload_n 3, 1) := by decide +kernel
theorem dX8_copies_19 : decode cX8_copies 19 = .ok (.iadd, 1) := by decide +kernel
theorem dX8_copies_20 : decode cX8_copies 20 = .ok (.aload_n 0, 1) := by decide +kernel
theorem dX8_copies_21 : decode cX8_copies 21 = .ok (.getfield 7, 3) := by decide +kernel
theorem dX8_copies_24 : decode cX8_copies 24 = .ok (.sipush 190, 3) := by decide +kernel
theorem dX8_copies_27 : decode cX8_copies 27 = .ok (.iload_n 1, 1) := by decide +kernel
theorem dX8_copies_28 : decode cX8_copies 28 = .ok (.imul, 1) := by decide +kernel
theorem dX8_copies_29 : decode cX8_copies 29 = .ok (.iload_n 3, 1) := by decide +kernel
theorem dX8_copies_30 : decode cX8_copies 30 = .ok (.iadd, 1) := by decide +kernel
theorem dX8_copies_31 : decode cX8_copies 31 = .ok (.iaload, 1) := by decide +kernel
theorem dX8_copies_32 : decode cX8_copies 32 = .ok (.iastore, 1) := by decide +kernel
theorem dX8_copies_33 : decode cX8_copies 33 = .ok (.iinc 3 1, 3) := by decide +kernel
theorem dX8_copies_36 : decode cX8_copies 36 = .ok (.goto (-34), 3) := by decide +kernel
theorem dX8_copies_39 : decode cX8_copies 39 = .ok (.return_, 1) := by decide +kernel
theorem dX8_keeps_0 : decode cX8_keeps 0 = .ok (.aload_n 0, 1) := by decide +kernel
theorem dX8_keeps_1 : decode cX8_keeps 1 = .ok (.iconst 0, 1) := by decide +kernel
theorem dX8_keeps_2 : decode cX8_keeps 2 = .ok (.bipush 6, 2) := by decide +kernel
theorem dX8_keeps_4 : decode cX8_keeps 4 = .ok (.invokevirtual 20, 3) := by decide +kernel
theorem dX8_keeps_7 : decode cX8_keeps 7 = .ok (.return_, 1) := by decide +kernel
theorem dX8_acted_0 : decode cX8_acted 0 = .ok (.iload_n 1, 1) := by decide +kernel
theorem dX8_acted_1 : decode cX8_acted 1 = .ok (.ldc 24, 2) := by decide +kernel
theorem dX8_acted_3 : decode cX8_acted 3 = .ok (.if_icmp .le 57, 3) := by decide +kernel
theorem dX8_acted_6 : decode cX8_acted 6 = .ok (.aload_n 0, 1) := by decide +kernel
theorem dX8_acted_7 : decode cX8_acted 7 = .ok (.getfield 25, 3) := by decide +kernel
theorem dX8_acted_10 : decode cX8_acted 10 = .ok (.iconst 4, 1) := by decide +kernel
theorem dX8_acted_11 : decode cX8_acted 11 = .ok (.if_icmp .ne 29, 3) := by decide +kernel
theorem dX8_acted_14 : decode cX8_acted 14 = .ok (.iconst 1, 1) := by decide +kernel
theorem dX8_acted_15 : decode cX8_acted 15 = .ok (.istore_n 2, 1) := by decide +kernel
theorem dX8_acted_16 : decode cX8_acted 16 = .ok (.iload_n 2, 1) := by decide +kernel
theorem dX8_acted_17 : decode cX8_acted 17 = .ok (.iconst 4, 1) := by decide +kernel
theorem dX8_acted_18 : decode cX8_acted 18 = .ok (.if_icmp .ge 17, 3) := by decide +kernel
theorem dX8_acted_21 : decode cX8_acted 21 = .ok (.aload_n 0, 1) := by decide +kernel
theorem dX8_acted_22 : decode cX8_acted 22 = .ok (.iload_n 2, 1) := by decide +kernel
theorem dX8_acted_23 : decode cX8_acted 23 = .ok (.iconst 1, 1) := by decide +kernel
theorem dX8_acted_24 : decode cX8_acted 24 = .ok (.iadd, 1) := by decide +kernel
theorem dX8_acted_25 : decode cX8_acted 25 = .ok (.iload_n 2, 1) := by decide +kernel
theorem dX8_acted_26 : decode cX8_acted 26 = .ok (.invokevirtual 20, 3) := by decide +kernel
theorem dX8_acted_29 : decode cX8_acted 29 = .ok (.iinc 2 1, 3) := by decide +kernel
theorem dX8_acted_32 : decode cX8_acted 32 = .ok (.goto (-16), 3) := by decide +kernel
theorem dX8_acted_35 : decode cX8_acted 35 = .ok (.aload_n 0, 1) := by decide +kernel
theorem dX8_acted_36 : decode cX8_acted 36 = .ok (.iconst 3, 1) := by decide +kernel
theorem dX8_acted_37 : decode cX8_acted 37 = .ok (.putfield 25, 3) := by decide +kernel
theorem dX8_acted_40 : decode cX8_acted 40 = .ok (.aload_n 0, 1) := by decide +kernel
theorem dX8_acted_41 : decode cX8_acted 41 = .ok (.dup, 1) := by decide +kernel
theorem dX8_acted_42 : decode cX8_acted 42 = .ok (.getfield 25, 3) := by decide +kernel
theorem dX8_acted_45 : decode cX8_acted 45 = .ok (.iconst 1, 1) := by decide +kernel
theorem dX8_acted_46 : decode cX8_acted 46 = .ok (.iadd, 1) := by decide +kernel
theorem dX8_acted_47 : decode cX8_acted 47 = .ok (.putfield 25, 3) := by decide +kernel
theorem dX8_acted_50 : decode cX8_acted 50 = .ok (.aload_n 0, 1) := by decide +kernel
theorem dX8_acted_51 : decode cX8_acted 51 = .ok (.bipush 6, 2) := by decide +kernel
theorem dX8_acted_53 : decode cX8_acted 53 = .ok (.aload_n 0, 1) := by decide +kernel
theorem dX8_acted_54 : decode cX8_acted 54 = .ok (.getfield 25, 3) := by decide +kernel
theorem dX8_acted_57 : decode cX8_acted 57 = .ok (.invokevirtual 20, 3) := by decide +kernel
theorem dX8_acted_60 : decode cX8_acted 60 = .ok (.iload_n 1, 1) := by decide +kernel
theorem dX8_acted_61 : decode cX8_acted 61 = .ok (.ireturn, 1) := by decide +kernel
theorem dX8_isShip_0 : decode cX8_isShip 0 = .ok (.iload_n 1, 1) := by decide +kernel
theorem dX8_isShip_1 : decode cX8_isShip 1 = .ok (.iconst 0, 1) := by decide +kernel
theorem dX8_isShip_2 : decode cX8_isShip 2 = .ok (.aload_n 0, 1) := by decide +kernel
theorem dX8_isShip_3 : decode cX8_isShip 3 = .ok (.getfield 7, 3) := by decide +kernel
theorem dX8_isShip_6 : decode cX8_isShip 6 = .ok (.bipush 16, 2) := by decide +kernel
theorem dX8_isShip_8 : decode cX8_isShip 8 = .ok (.iaload, 1) := by decide +kernel
theorem dX8_isShip_9 : decode cX8_isShip 9 = .ok (.iconst 1, 1) := by decide +kernel
theorem dX8_isShip_10 : decode cX8_isShip 10 = .ok (.isub, 1) := by decide +kernel
theorem dX8_isShip_11 : decode cX8_isShip 11 = .ok (.invokestatic 29, 3) := by decide +kernel
theorem dX8_isShip_14 : decode cX8_isShip 14 = .ok (.ireturn, 1) := by decide +kernel
theorem dX8_isCargo_0 : decode cX8_isCargo 0 = .ok (.iload_n 1, 1) := by decide +kernel
theorem dX8_isCargo_1 : decode cX8_isCargo 1 = .ok (.iconst 0, 1) := by decide +kernel
theorem dX8_isCargo_2 : decode cX8_isCargo 2 = .ok (.aload_n 0, 1) := by decide +kernel
theorem dX8_isCargo_3 : decode cX8_isCargo 3 = .ok (.getfield 7, 3) := by decide +kernel
theorem dX8_isCargo_6 : decode cX8_isCargo 6 = .ok (.bipush 107, 2) := by decide +kernel
theorem dX8_isCargo_8 : decode cX8_isCargo 8 = .ok (.iaload, 1) := by decide +kernel
theorem dX8_isCargo_9 : decode cX8_isCargo 9 = .ok (.iconst 1, 1) := by decide +kernel
theorem dX8_isCargo_10 : decode cX8_isCargo 10 = .ok (.isub, 1) := by decide +kernel
theorem dX8_isCargo_11 : decode cX8_isCargo 11 = .ok (.invokestatic 29, 3) := by decide +kernel
theorem dX8_isCargo_14 : decode cX8_isCargo 14 = .ok (.ireturn, 1) := by decide +kernel
theorem dX8_shipAt_0 : decode cX8_shipAt 0 = .ok (.sipush 190, 3) := by decide +kernel
theorem dX8_shipAt_3 : decode cX8_shipAt 3 = .ok (.iload_n 0, 1) := by decide +kernel
theorem dX8_shipAt_4 : decode cX8_shipAt 4 = .ok (.imul, 1) := by decide +kernel
theorem dX8_shipAt_5 : decode cX8_shipAt 5 = .ok (.bipush 17, 2) := by decide +kernel
theorem dX8_shipAt_7 : decode cX8_shipAt 7 = .ok (.iadd, 1) := by decide +kernel
theorem dX8_shipAt_8 : decode cX8_shipAt 8 = .ok (.bipush 18, 2) := by decide +kernel
theorem dX8_shipAt_10 : decode cX8_shipAt 10 = .ok (.iload_n 1, 1) := by decide +kernel
theorem dX8_shipAt_11 : decode cX8_shipAt 11 = .ok (.imul, 1) := by decide +kernel
theorem dX8_shipAt_12 : decode cX8_shipAt 12 = .ok (.iadd, 1) := by decide +kernel
theorem dX8_shipAt_13 : decode cX8_shipAt 13 = .ok (.iload_n 2, 1) := by decide +kernel
theorem dX8_shipAt_14 : decode cX8_shipAt 14 = .ok (.iadd, 1) := by decide +kernel
theorem dX8_shipAt_15 : decode cX8_shipAt 15 = .ok (.ireturn, 1) := by decide +kernel
theorem dX8_cargoAt_0 : decode cX8_cargoAt 0 = .ok (.sipush 190, 3) := by decide +kernel
theorem dX8_cargoAt_3 : decode cX8_cargoAt 3 = .ok (.iload_n 0, 1) := by decide +kernel
theorem dX8_cargoAt_4 : decode cX8_cargoAt 4 = .ok (.imul, 1) := by decide +kernel
theorem dX8_cargoAt_5 : decode cX8_cargoAt 5 = .ok (.bipush 108, 2) := by decide +kernel
theorem dX8_cargoAt_7 : decode cX8_cargoAt 7 = .ok (.iadd, 1) := by decide +kernel
theorem dX8_cargoAt_8 : decode cX8_cargoAt 8 = .ok (.bipush 8, 2) := by decide +kernel
theorem dX8_cargoAt_10 : decode cX8_cargoAt 10 = .ok (.iload_n 1, 1) := by decide +kernel
theorem dX8_cargoAt_11 : decode cX8_cargoAt 11 = .ok (.imul, 1) := by decide +kernel
theorem dX8_cargoAt_12 : decode cX8_cargoAt 12 = .ok (.iadd, 1) := by decide +kernel
theorem dX8_cargoAt_13 : decode cX8_cargoAt 13 = .ok (.iload_n 2, 1) := by decide +kernel
theorem dX8_cargoAt_14 : decode cX8_cargoAt 14 = .ok (.iadd, 1) := by decide +kernel
theorem dX8_cargoAt_15 : decode cX8_cargoAt 15 = .ok (.ireturn, 1) := by decide +kernel
theorem dX8_apart_0 : decode cX8_apart 0 = .ok (.iload_n 0, 1) := by decide +kernel
theorem dX8_apart_1 : decode cX8_apart 1 = .ok (.iload_n 1, 1) := by decide +kernel
theorem dX8_apart_2 : decode cX8_apart 2 = .ok (.if_icmp .le 9, 3) := by decide +kernel
theorem dX8_apart_5 : decode cX8_apart 5 = .ok (.iload_n 0, 1) := by decide +kernel
theorem dX8_apart_6 : decode cX8_apart 6 = .ok (.iload_n 1, 1) := by decide +kernel
theorem dX8_apart_7 : decode cX8_apart 7 = .ok (.isub, 1) := by decide +kernel
theorem dX8_apart_8 : decode cX8_apart 8 = .ok (.goto 6, 3) := by decide +kernel
theorem dX8_apart_11 : decode cX8_apart 11 = .ok (.iload_n 1, 1) := by decide +kernel
theorem dX8_apart_12 : decode cX8_apart 12 = .ok (.iload_n 0, 1) := by decide +kernel
theorem dX8_apart_13 : decode cX8_apart 13 = .ok (.isub, 1) := by decide +kernel
theorem dX8_apart_14 : decode cX8_apart 14 = .ok (.ireturn, 1) := by decide +kernel
theorem dX8_far_0 : decode cX8_far 0 = .ok (.bipush 10, 2) := by decide +kernel
theorem dX8_far_2 : decode cX8_far 2 = .ok (.aload_n 0, 1) := by decide +kernel
theorem dX8_far_3 : decode cX8_far 3 = .ok (.getfield 7, 3) := by decide +kernel
theorem dX8_far_6 : decode cX8_far 6 = .ok (.iconst 0, 1) := by decide +kernel
theorem dX8_far_7 : decode cX8_far 7 = .ok (.iconst 2, 1) := by decide +kernel
theorem dX8_far_8 : decode cX8_far 8 = .ok (.iload_n 1, 1) := by decide +kernel
theorem dX8_far_9 : decode cX8_far 9 = .ok (.imul, 1) := by decide +kernel
theorem dX8_far_10 : decode cX8_far 10 = .ok (.iadd, 1) := by decide +kernel
theorem dX8_far_11 : decode cX8_far 11 = .ok (.iaload, 1) := by decide +kernel
theorem dX8_far_12 : decode cX8_far 12 = .ok (.aload_n 0, 1) := by decide +kernel
theorem dX8_far_13 : decode cX8_far 13 = .ok (.getfield 7, 3) := by decide +kernel
theorem dX8_far_16 : decode cX8_far 16 = .ok (.iconst 0, 1) := by decide +kernel
theorem dX8_far_17 : decode cX8_far 17 = .ok (.iconst 2, 1) := by decide +kernel
theorem dX8_far_18 : decode cX8_far 18 = .ok (.iload_n 2, 1) := by decide +kernel
theorem dX8_far_19 : decode cX8_far 19 = .ok (.imul, 1) := by decide +kernel
theorem dX8_far_20 : decode cX8_far 20 = .ok (.iadd, 1) := by decide +kernel
theorem dX8_far_21 : decode cX8_far 21 = .ok (.iaload, 1) := by decide +kernel
theorem dX8_far_22 : decode cX8_far 22 = .ok (.invokestatic 33, 3) := by decide +kernel
theorem dX8_far_25 : decode cX8_far 25 = .ok (.aload_n 0, 1) := by decide +kernel
theorem dX8_far_26 : decode cX8_far 26 = .ok (.getfield 7, 3) := by decide +kernel
theorem dX8_far_29 : decode cX8_far 29 = .ok (.iconst 0, 1) := by decide +kernel
theorem dX8_far_30 : decode cX8_far 30 = .ok (.iconst 2, 1) := by decide +kernel
theorem dX8_far_31 : decode cX8_far 31 = .ok (.iload_n 1, 1) := by decide +kernel
theorem dX8_far_32 : decode cX8_far 32 = .ok (.imul, 1) := by decide +kernel
theorem dX8_far_33 : decode cX8_far 33 = .ok (.iadd, 1) := by decide +kernel
theorem dX8_far_34 : decode cX8_far 34 = .ok (.iconst 1, 1) := by decide +kernel
theorem dX8_far_35 : decode cX8_far 35 = .ok (.iadd, 1) := by decide +kernel
theorem dX8_far_36 : decode cX8_far 36 = .ok (.iaload, 1) := by decide +kernel
theorem dX8_far_37 : decode cX8_far 37 = .ok (.aload_n 0, 1) := by decide +kernel
theorem dX8_far_38 : decode cX8_far 38 = .ok (.getfield 7, 3) := by decide +kernel
theorem dX8_far_41 : decode cX8_far 41 = .ok (.iconst 0, 1) := by decide +kernel
theorem dX8_far_42 : decode cX8_far 42 = .ok (.iconst 2, 1) := by decide +kernel
theorem dX8_far_43 : decode cX8_far 43 = .ok (.iload_n 2, 1) := by decide +kernel
theorem dX8_far_44 : decode cX8_far 44 = .ok (.imul, 1) := by decide +kernel
theorem dX8_far_45 : decode cX8_far 45 = .ok (.iadd, 1) := by decide +kernel
theorem dX8_far_46 : decode cX8_far 46 = .ok (.iconst 1, 1) := by decide +kernel
theorem dX8_far_47 : decode cX8_far 47 = .ok (.iadd, 1) := by decide +kernel
theorem dX8_far_48 : decode cX8_far 48 = .ok (.iaload, 1) := by decide +kernel
theorem dX8_far_49 : decode cX8_far 49 = .ok (.invokestatic 33, 3) := by decide +kernel
theorem dX8_far_52 : decode cX8_far 52 = .ok (.iadd, 1) := by decide +kernel
theorem dX8_far_53 : decode cX8_far 53 = .ok (.imul, 1) := by decide +kernel
theorem dX8_far_54 : decode cX8_far 54 = .ok (.ireturn, 1) := by decide +kernel
theorem dX8_sails_0 : decode cX8_sails 0 = .ok (.bipush 24, 2) := by decide +kernel
theorem dX8_sails_2 : decode cX8_sails 2 = .ok (.aload_n 0, 1) := by decide +kernel
theorem dX8_sails_3 : decode cX8_sails 3 = .ok (.getfield 7, 3) := by decide +kernel
theorem dX8_sails_6 : decode cX8_sails 6 = .ok (.iload_n 1, 1) := by decide +kernel
theorem dX8_sails_7 : decode cX8_sails 7 = .ok (.iload_n 2, 1) := by decide +kernel
theorem dX8_sails_8 : decode cX8_sails 8 = .ok (.iconst 1, 1) := by decide +kernel
theorem dX8_sails_9 : decode cX8_sails 9 = .ok (.invokestatic 37, 3) := by decide +kernel
theorem dX8_sails_12 : decode cX8_sails 12 = .ok (.iaload, 1) := by decide +kernel
theorem dX8_sails_13 : decode cX8_sails 13 = .ok (.imul, 1) := by decide +kernel
theorem dX8_sails_14 : decode cX8_sails 14 = .ok (.istore 5, 2) := by decide +kernel
theorem dX8_sails_16 : decode cX8_sails 16 = .ok (.aload_n 0, 1) := by decide +kernel
theorem dX8_sails_17 : decode cX8_sails 17 = .ok (.iload_n 3, 1) := by decide +kernel
theorem dX8_sails_18 : decode cX8_sails 18 = .ok (.iload 4, 2) := by decide +kernel
theorem dX8_sails_20 : decode cX8_sails 20 = .ok (.invokevirtual 41, 3) := by decide +kernel
theorem dX8_sails_23 : decode cX8_sails 23 = .ok (.iload 5, 2) := by decide +kernel
theorem dX8_sails_25 : decode cX8_sails 25 = .ok (.iadd, 1) := by decide +kernel
theorem dX8_sails_26 : decode cX8_sails 26 = .ok (.iconst 1, 1) := by decide +kernel
theorem dX8_sails_27 : decode cX8_sails 27 = .ok (.isub, 1) := by decide +kernel
theorem dX8_sails_28 : decode cX8_sails 28 = .ok (.iload 5, 2) := by decide +kernel
theorem dX8_sails_30 : decode cX8_sails 30 = .ok (.idiv, 1) := by decide +kernel
theorem dX8_sails_31 : decode cX8_sails 31 = .ok (.ireturn, 1) := by decide +kernel
theorem dX8_looks_0 : decode cX8_looks 0 = .ok (.aload_n 0, 1) := by decide +kernel
theorem dX8_looks_1 : decode cX8_looks 1 = .ok (.getfield 7, 3) := by decide +kernel
theorem dX8_looks_4 : decode cX8_looks 4 = .ok (.iload_n 1, 1) := by decide +kernel
theorem dX8_looks_5 : decode cX8_looks 5 = .ok (.iload_n 3, 1) := by decide +kernel
theorem dX8_looks_6 : decode cX8_looks 6 = .ok (.iconst 1, 1) := by decide +kernel
theorem dX8_looks_7 : decode cX8_looks 7 = .ok (.invokestatic 44, 3) := by decide +kernel
theorem dX8_looks_10 : decode cX8_looks 10 = .ok (.iaload, 1) := by decide +kernel
theorem dX8_looks_11 : decode cX8_looks 11 = .ok (.istore 6, 2) := by decide +kernel
theorem dX8_looks_13 : decode cX8_looks 13 = .ok (.aload_n 0, 1) := by decide +kernel
theorem dX8_looks_14 : decode cX8_looks 14 = .ok (.iload 5, 2) := by decide +kernel
theorem dX8_looks_16 : decode cX8_looks 16 = .ok (.aload_n 0, 1) := by decide +kernel
theorem dX8_looks_17 : decode cX8_looks 17 = .ok (.iload_n 1, 1) := by decide +kernel
theorem dX8_looks_18 : decode cX8_looks 18 = .ok (.iload_n 2, 1) := by decide +kernel
theorem dX8_looks_19 : decode cX8_looks 19 = .ok (.iload 4, 2) := by decide +kernel
theorem dX8_looks_21 : decode cX8_looks 21 = .ok (.iload 6, 2) := by decide +kernel
theorem dX8_looks_23 : decode cX8_looks 23 = .ok (.invokevirtual 47, 3) := by decide +kernel
theorem dX8_looks_26 : decode cX8_looks 26 = .ok (.iadd, 1) := by decide +kernel
theorem dX8_looks_27 : decode cX8_looks 27 = .ok (.putfield 51, 3) := by decide +kernel
theorem dX8_looks_30 : decode cX8_looks 30 = .ok (.aload_n 0, 1) := by decide +kernel
theorem dX8_looks_31 : decode cX8_looks 31 = .ok (.getfield 7, 3) := by decide +kernel
theorem dX8_looks_34 : decode cX8_looks 34 = .ok (.iload_n 1, 1) := by decide +kernel
theorem dX8_looks_35 : decode cX8_looks 35 = .ok (.iload_n 3, 1) := by decide +kernel
theorem dX8_looks_36 : decode cX8_looks 36 = .ok (.iconst 3, 1) := by decide +kernel
theorem dX8_looks_37 : decode cX8_looks 37 = .ok (.invokestatic 44, 3) := by decide +kernel
theorem dX8_looks_40 : decode cX8_looks 40 = .ok (.iaload, 1) := by decide +kernel
theorem dX8_looks_41 : decode cX8_looks 41 = .ok (.istore 7, 2) := by decide +kernel
theorem dX8_looks_43 : decode cX8_looks 43 = .ok (.aload_n 0, 1) := by decide +kernel
theorem dX8_looks_44 : decode cX8_looks 44 = .ok (.aload_n 0, 1) := by decide +kernel
theorem dX8_looks_45 : decode cX8_looks 45 = .ok (.getfield 51, 3) := by decide +kernel
theorem dX8_looks_48 : decode cX8_looks 48 = .ok (.iload 7, 2) := by decide +kernel
theorem dX8_looks_50 : decode cX8_looks 50 = .ok (.if_icmp .ge 8, 3) := by decide +kernel
theorem dX8_looks_53 : decode cX8_looks 53 = .ok (.iload 7, 2) := by decide +kernel
theorem dX8_looks_55 : decode cX8_looks 55 = .ok (.goto 7, 3) := by decide +kernel
theorem dX8_looks_58 : decode cX8_looks 58 = .ok (.aload_n 0, 1) := by decide +kernel
theorem dX8_looks_59 : decode cX8_looks 59 = .ok (.getfield 51, 3) := by decide +kernel
theorem dX8_looks_62 : decode cX8_looks 62 = .ok (.putfield 54, 3) := by decide +kernel
theorem dX8_looks_65 : decode cX8_looks 65 = .ok (.aload_n 0, 1) := by decide +kernel
theorem dX8_looks_66 : decode cX8_looks 66 = .ok (.aload_n 0, 1) := by decide +kernel
theorem dX8_looks_67 : decode cX8_looks 67 = .ok (.getfield 54, 3) := by decide +kernel
theorem dX8_looks_70 : decode cX8_looks 70 = .ok (.iconst 4, 1) := by decide +kernel
theorem dX8_looks_71 : decode cX8_looks 71 = .ok (.iadd, 1) := by decide +kernel
theorem dX8_looks_72 : decode cX8_looks 72 = .ok (.aload_n 0, 1) := by decide +kernel
theorem dX8_looks_73 : decode cX8_looks 73 = .ok (.iload_n 1, 1) := by decide +kernel
theorem dX8_looks_74 : decode cX8_looks 74 = .ok (.iload_n 2, 1) := by decide +kernel
theorem dX8_looks_75 : decode cX8_looks 75 = .ok (.iload 6, 2) := by decide +kernel
theorem dX8_looks_77 : decode cX8_looks 77 = .ok (.aload_n 0, 1) := by decide +kernel
theorem dX8_looks_78 : decode cX8_looks 78 = .ok (.getfield 7, 3) := by decide +kernel
theorem dX8_looks_81 : decode cX8_looks 81 = .ok (.iload_n 1, 1) := by decide +kernel
theorem dX8_looks_82 : decode cX8_looks 82 = .ok (.iload_n 3, 1) := by decide +kernel
theorem dX8_looks_83 : decode cX8_looks 83 = .ok (.iconst 2, 1) := by decide +kernel
theorem dX8_looks_84 : decode cX8_looks 84 = .ok (.invokestatic 44, 3) := by decide +kernel
theorem dX8_looks_87 : decode cX8_looks 87 = .ok (.iaload, 1) := by decide +kernel
theorem dX8_looks_88 : decode cX8_looks 88 = .ok (.invokevirtual 47, 3) := by decide +kernel
theorem dX8_looks_91 : decode cX8_looks 91 = .ok (.iadd, 1) := by decide +kernel
theorem dX8_looks_92 : decode cX8_looks 92 = .ok (.putfield 57, 3) := by decide +kernel
theorem dX8_looks_95 : decode cX8_looks 95 = .ok (.aload_n 0, 1) := by decide +kernel
theorem dX8_looks_96 : decode cX8_looks 96 = .ok (.aload_n 0, 1) := by decide +kernel
theorem dX8_looks_97 : decode cX8_looks 97 = .ok (.getfield 7, 3) := by decide +kernel
theorem dX8_looks_100 : decode cX8_looks 100 = .ok (.iload_n 1, 1) := by decide +kernel
theorem dX8_looks_101 : decode cX8_looks 101 = .ok (.iload_n 3, 1) := by decide +kernel
theorem dX8_looks_102 : decode cX8_looks 102 = .ok (.iconst 0, 1) := by decide +kernel
theorem dX8_looks_103 : decode cX8_looks 103 = .ok (.invokestatic 44, 3) := by decide +kernel
theorem dX8_looks_106 : decode cX8_looks 106 = .ok (.iaload, 1) := by decide +kernel
theorem dX8_looks_107 : decode cX8_looks 107 = .ok (.aload_n 0, 1) := by decide +kernel
theorem dX8_looks_108 : decode cX8_looks 108 = .ok (.getfield 7, 3) := by decide +kernel
theorem dX8_looks_111 : decode cX8_looks 111 = .ok (.iload_n 1, 1) := by decide +kernel
theorem dX8_looks_112 : decode cX8_looks 112 = .ok (.iload_n 3, 1) := by decide +kernel
theorem dX8_looks_113 : decode cX8_looks 113 = .ok (.iconst 5, 1) := by decide +kernel
theorem dX8_looks_114 : decode cX8_looks 114 = .ok (.invokestatic 44, 3) := by decide +kernel
theorem dX8_looks_117 : decode cX8_looks 117 = .ok (.iaload, 1) := by decide +kernel
theorem dX8_looks_118 : decode cX8_looks 118 = .ok (.imul, 1) := by decide +kernel
theorem dX8_looks_119 : decode cX8_looks 119 = .ok (.aload_n 0, 1) := by decide +kernel
theorem dX8_looks_120 : decode cX8_looks 120 = .ok (.getfield 57, 3) := by decide +kernel
theorem dX8_looks_123 : decode cX8_looks 123 = .ok (.iload 5, 2) := by decide +kernel
theorem dX8_looks_125 : decode cX8_looks 125 = .ok (.isub, 1) := by decide +kernel
theorem dX8_looks_126 : decode cX8_looks 126 = .ok (.aload_n 0, 1) := by decide +kernel
theorem dX8_looks_127 : decode cX8_looks 127 = .ok (.getfield 7, 3) := by decide +kernel
theorem dX8_looks_130 : decode cX8_looks 130 = .ok (.iload_n 1, 1) := by decide +kernel
theorem dX8_looks_131 : decode cX8_looks 131 = .ok (.iload_n 2, 1) := by decide +kernel
theorem dX8_looks_132 : decode cX8_looks 132 = .ok (.iconst 2, 1) := by decide +kernel
theorem dX8_looks_133 : decode cX8_looks 133 = .ok (.invokestatic 37, 3) := by decide +kernel
theorem dX8_looks_136 : decode cX8_looks 136 = .ok (.iaload, 1) := by decide +kernel
theorem dX8_looks_137 : decode cX8_looks 137 = .ok (.imul, 1) := by decide +kernel
theorem dX8_looks_138 : decode cX8_looks 138 = .ok (.isub, 1) := by decide +kernel
theorem dX8_looks_139 : decode cX8_looks 139 = .ok (.putfield 60, 3) := by decide +kernel
theorem dX8_looks_142 : decode cX8_looks 142 = .ok (.return_, 1) := by decide +kernel
theorem dX8_isLate_0 : decode cX8_isLate 0 = .ok (.aload_n 0, 1) := by decide +kernel
theorem dX8_isLate_1 : decode cX8_isLate 1 = .ok (.getfield 51, 3) := by decide +kernel
theorem dX8_isLate_4 : decode cX8_isLate 4 = .ok (.aload_n 0, 1) := by decide +kernel
theorem dX8_isLate_5 : decode cX8_isLate 5 = .ok (.getfield 7, 3) := by decide +kernel
theorem dX8_isLate_8 : decode cX8_isLate 8 = .ok (.iload_n 1, 1) := by decide +kernel
theorem dX8_isLate_9 : decode cX8_isLate 9 = .ok (.iload_n 2, 1) := by decide +kernel
theorem dX8_isLate_10 : decode cX8_isLate 10 = .ok (.iconst 4, 1) := by decide +kernel
theorem dX8_isLate_11 : decode cX8_isLate 11 = .ok (.invokestatic 44, 3) := by decide +kernel
theorem dX8_isLate_14 : decode cX8_isLate 14 = .ok (.iaload, 1) := by decide +kernel
theorem dX8_isLate_15 : decode cX8_isLate 15 = .ok (.if_icmp .le 7, 3) := by decide +kernel
theorem dX8_isLate_18 : decode cX8_isLate 18 = .ok (.iconst 1, 1) := by decide +kernel
theorem dX8_isLate_19 : decode cX8_isLate 19 = .ok (.goto 4, 3) := by decide +kernel
theorem dX8_isLate_22 : decode cX8_isLate 22 = .ok (.iconst 0, 1) := by decide +kernel
theorem dX8_isLate_23 : decode cX8_isLate 23 = .ok (.ireturn, 1) := by decide +kernel
theorem dX8_goes_0 : decode cX8_goes 0 = .ok (.aload_n 0, 1) := by decide +kernel
theorem dX8_goes_1 : decode cX8_goes 1 = .ok (.aload_n 0, 1) := by decide +kernel
theorem dX8_goes_2 : decode cX8_goes 2 = .ok (.getfield 7, 3) := by decide +kernel
theorem dX8_goes_5 : decode cX8_goes 5 = .ok (.iload_n 1, 1) := by decide +kernel
theorem dX8_goes_6 : decode cX8_goes 6 = .ok (.iload_n 2, 1) := by decide +kernel
theorem dX8_goes_7 : decode cX8_goes 7 = .ok (.iconst 3, 1) := by decide +kernel
theorem dX8_goes_8 : decode cX8_goes 8 = .ok (.invokestatic 37, 3) := by decide +kernel
theorem dX8_goes_11 : decode cX8_goes 11 = .ok (.iaload, 1) := by decide +kernel
theorem dX8_goes_12 : decode cX8_goes 12 = .ok (.putfield 63, 3) := by decide +kernel
theorem dX8_goes_15 : decode cX8_goes 15 = .ok (.aload_n 0, 1) := by decide +kernel
theorem dX8_goes_16 : decode cX8_goes 16 = .ok (.aload_n 0, 1) := by decide +kernel
theorem dX8_goes_17 : decode cX8_goes 17 = .ok (.getfield 7, 3) := by decide +kernel
theorem dX8_goes_20 : decode cX8_goes 20 = .ok (.iload_n 1, 1) := by decide +kernel
theorem dX8_goes_21 : decode cX8_goes 21 = .ok (.iload_n 2, 1) := by decide +kernel
theorem dX8_goes_22 : decode cX8_goes 22 = .ok (.iconst 4, 1) := by decide +kernel
theorem dX8_goes_23 : decode cX8_goes 23 = .ok (.invokestatic 37, 3) := by decide +kernel
theorem dX8_goes_26 : decode cX8_goes 26 = .ok (.iaload, 1) := by decide +kernel
theorem dX8_goes_27 : decode cX8_goes 27 = .ok (.putfield 66, 3) := by decide +kernel
theorem dX8_goes_30 : decode cX8_goes 30 = .ok (.aload_n 0, 1) := by decide +kernel
theorem dX8_goes_31 : decode cX8_goes 31 = .ok (.iconst 0, 1) := by decide +kernel
theorem dX8_goes_32 : decode cX8_goes 32 = .ok (.putfield 69, 3) := by decide +kernel
theorem dX8_goes_35 : decode cX8_goes 35 = .ok (.aload_n 0, 1) := by decide +kernel
theorem dX8_goes_36 : decode cX8_goes 36 = .ok (.iconst 0, 1) := by decide +kernel
theorem dX8_goes_37 : decode cX8_goes 37 = .ok (.putfield 72, 3) := by decide +kernel
theorem dX8_goes_40 : decode cX8_goes 40 = .ok (.iconst 1, 1) := by decide +kernel
theorem dX8_goes_41 : decode cX8_goes 41 = .ok (.istore 4, 2) := by decide +kernel
theorem dX8_goes_43 : decode cX8_goes 43 = .ok (.iconst 0, 1) := by decide +kernel
theorem dX8_goes_44 : decode cX8_goes 44 = .ok (.istore 5, 2) := by decide +kernel
theorem dX8_goes_46 : decode cX8_goes 46 = .ok (.iload 5, 2) := by decide +kernel
theorem dX8_goes_48 : decode cX8_goes 48 = .ok (.iload_n 3, 1) := by decide +kernel
theorem dX8_goes_49 : decode cX8_goes 49 = .ok (.if_icmp .ge 116, 3) := by decide +kernel
theorem dX8_goes_52 : decode cX8_goes 52 = .ok (.iload 4, 2) := by decide +kernel
theorem dX8_goes_54 : decode cX8_goes 54 = .ok (.ifCond .eq 111, 3) := by decide +kernel
theorem dX8_goes_57 : decode cX8_goes 57 = .ok (.aload_n 0, 1) := by decide +kernel
theorem dX8_goes_58 : decode cX8_goes 58 = .ok (.getfield 7, 3) := by decide +kernel
theorem dX8_goes_61 : decode cX8_goes 61 = .ok (.iload_n 1, 1) := by decide +kernel
theorem dX8_goes_62 : decode cX8_goes 62 = .ok (.iload_n 2, 1) := by decide +kernel
theorem dX8_goes_63 : decode cX8_goes 63 = .ok (.bipush 7, 2) := by decide +kernel
theorem dX8_goes_65 : decode cX8_goes 65 = .ok (.iload 5, 2) := by decide +kernel
theorem dX8_goes_67 : decode cX8_goes 67 = .ok (.iadd, 1) := by decide +kernel
theorem dX8_goes_68 : decode cX8_goes 68 = .ok (.invokestatic 37, 3) := by decide +kernel
theorem dX8_goes_71 : decode cX8_goes 71 = .ok (.iaload, 1) := by decide +kernel
theorem dX8_goes_72 : decode cX8_goes 72 = .ok (.istore 6, 2) := by decide +kernel
theorem dX8_goes_74 : decode cX8_goes 74 = .ok (.aload_n 0, 1) := by decide +kernel
theorem dX8_goes_75 : decode cX8_goes 75 = .ok (.iload_n 1, 1) := by decide +kernel
theorem dX8_goes_76 : decode cX8_goes 76 = .ok (.iload_n 2, 1) := by decide +kernel
theorem dX8_goes_77 : decode cX8_goes 77 = .ok (.iload 6, 2) := by decide +kernel
theorem dX8_goes_79 : decode cX8_goes 79 = .ok (.aload_n 0, 1) := by decide +kernel
theorem dX8_goes_80 : decode cX8_goes 80 = .ok (.getfield 63, 3) := by decide +kernel
theorem dX8_goes_83 : decode cX8_goes 83 = .ok (.aload_n 0, 1) := by decide +kernel
theorem dX8_goes_84 : decode cX8_goes 84 = .ok (.getfield 66, 3) := by decide +kernel
theorem dX8_goes_87 : decode cX8_goes 87 = .ok (.invokevirtual 75, 3) := by decide +kernel
theorem dX8_goes_90 : decode cX8_goes 90 = .ok (.aload_n 0, 1) := by decide +kernel
theorem dX8_goes_91 : decode cX8_goes 91 = .ok (.iload_n 1, 1) := by decide +kernel
theorem dX8_goes_92 : decode cX8_goes 92 = .ok (.iload 6, 2) := by decide +kernel
theorem dX8_goes_94 : decode cX8_goes 94 = .ok (.invokevirtual 79, 3) := by decide +kernel
theorem dX8_goes_97 : decode cX8_goes 97 = .ok (.ifCond .ne 7, 3) := by decide +kernel
theorem dX8_goes_100 : decode cX8_goes 100 = .ok (.iconst 1, 1) := by decide +kernel
theorem dX8_goes_101 : decode cX8_goes 101 = .ok (.goto 4, 3) := by decide +kernel
theorem dX8_goes_104 : decode cX8_goes 104 = .ok (.iconst 0, 1) := by decide +kernel
theorem dX8_goes_105 : decode cX8_goes 105 = .ok (.istore 4, 2) := by decide +kernel
theorem dX8_goes_107 : decode cX8_goes 107 = .ok (.iload 4, 2) := by decide +kernel
theorem dX8_goes_109 : decode cX8_goes 109 = .ok (.ifCond .eq 50, 3) := by decide +kernel
theorem dX8_goes_112 : decode cX8_goes 112 = .ok (.aload_n 0, 1) := by decide +kernel
theorem dX8_goes_113 : decode cX8_goes 113 = .ok (.aload_n 0, 1) := by decide +kernel
theorem dX8_goes_114 : decode cX8_goes 114 = .ok (.getfield 7, 3) := by decide +kernel
theorem dX8_goes_117 : decode cX8_goes 117 = .ok (.iload_n 1, 1) := by decide +kernel
theorem dX8_goes_118 : decode cX8_goes 118 = .ok (.iload 6, 2) := by decide +kernel
theorem dX8_goes_120 : decode cX8_goes 120 = .ok (.iconst 2, 1) := by decide +kernel
theorem dX8_goes_121 : decode cX8_goes 121 = .ok (.invokestatic 44, 3) := by decide +kernel
theorem dX8_goes_124 : decode cX8_goes 124 = .ok (.iaload, 1) := by decide +kernel
theorem dX8_goes_125 : decode cX8_goes 125 = .ok (.putfield 63, 3) := by decide +kernel
theorem dX8_goes_128 : decode cX8_goes 128 = .ok (.aload_n 0, 1) := by decide +kernel
theorem dX8_goes_129 : decode cX8_goes 129 = .ok (.aload_n 0, 1) := by decide +kernel
theorem dX8_goes_130 : decode cX8_goes 130 = .ok (.getfield 57, 3) := by decide +kernel
theorem dX8_goes_133 : decode cX8_goes 133 = .ok (.putfield 66, 3) := by decide +kernel
theorem dX8_goes_136 : decode cX8_goes 136 = .ok (.aload_n 0, 1) := by decide +kernel
theorem dX8_goes_137 : decode cX8_goes 137 = .ok (.dup, 1) := by decide +kernel
theorem dX8_goes_138 : decode cX8_goes 138 = .ok (.getfield 69, 3) := by decide +kernel
theorem dX8_goes_141 : decode cX8_goes 141 = .ok (.aload_n 0, 1) := by decide +kernel
theorem dX8_goes_142 : decode cX8_goes 142 = .ok (.getfield 60, 3) := by decide +kernel
theorem dX8_goes_145 : decode cX8_goes 145 = .ok (.iadd, 1) := by decide +kernel
theorem dX8_goes_146 : decode cX8_goes 146 = .ok (.putfield 69, 3) := by decide +kernel
theorem dX8_goes_149 : decode cX8_goes 149 = .ok (.aload_n 0, 1) := by decide +kernel
theorem dX8_goes_150 : decode cX8_goes 150 = .ok (.dup, 1) := by decide +kernel
theorem dX8_goes_151 : decode cX8_goes 151 = .ok (.getfield 72, 3) := by decide +kernel
theorem dX8_goes_154 : decode cX8_goes 154 = .ok (.iconst 1, 1) := by decide +kernel
theorem dX8_goes_155 : decode cX8_goes 155 = .ok (.iadd, 1) := by decide +kernel
theorem dX8_goes_156 : decode cX8_goes 156 = .ok (.putfield 72, 3) := by decide +kernel
theorem dX8_goes_159 : decode cX8_goes 159 = .ok (.iinc 5 1, 3) := by decide +kernel
theorem dX8_goes_162 : decode cX8_goes 162 = .ok (.goto (-116), 3) := by decide +kernel
theorem dX8_goes_165 : decode cX8_goes 165 = .ok (.return_, 1) := by decide +kernel
theorem dX8_goesAll_0 : decode cX8_goesAll 0 = .ok (.aload_n 0, 1) := by decide +kernel
theorem dX8_goesAll_1 : decode cX8_goesAll 1 = .ok (.iload_n 1, 1) := by decide +kernel
theorem dX8_goesAll_2 : decode cX8_goesAll 2 = .ok (.iload_n 2, 1) := by decide +kernel
theorem dX8_goesAll_3 : decode cX8_goesAll 3 = .ok (.aload_n 0, 1) := by decide +kernel
theorem dX8_goesAll_4 : decode cX8_goesAll 4 = .ok (.getfield 7, 3) := by decide +kernel
theorem dX8_goesAll_7 : decode cX8_goesAll 7 = .ok (.iload_n 1, 1) := by decide +kernel
theorem dX8_goesAll_8 : decode cX8_goesAll 8 = .ok (.iload_n 2, 1) := by decide +kernel
theorem dX8_goesAll_9 : decode cX8_goesAll 9 = .ok (.bipush 6, 2) := by decide +kernel
theorem dX8_goesAll_11 : decode cX8_goesAll 11 = .ok (.invokestatic 37, 3) := by decide +kernel
theorem dX8_goesAll_14 : decode cX8_goesAll 14 = .ok (.iaload, 1) := by decide +kernel
theorem dX8_goesAll_15 : decode cX8_goesAll 15 = .ok (.invokevirtual 83, 3) := by decide +kernel
theorem dX8_goesAll_18 : decode cX8_goesAll 18 = .ok (.return_, 1) := by decide +kernel
theorem dX8_could_0 : decode cX8_could 0 = .ok (.aload_n 0, 1) := by decide +kernel
theorem dX8_could_1 : decode cX8_could 1 = .ok (.iload_n 1, 1) := by decide +kernel
theorem dX8_could_2 : decode cX8_could 2 = .ok (.iload_n 2, 1) := by decide +kernel
theorem dX8_could_3 : decode cX8_could 3 = .ok (.invokevirtual 87, 3) := by decide +kernel
theorem dX8_could_6 : decode cX8_could 6 = .ok (.aload_n 0, 1) := by decide +kernel
theorem dX8_could_7 : decode cX8_could 7 = .ok (.iload_n 1, 1) := by decide +kernel
theorem dX8_could_8 : decode cX8_could 8 = .ok (.iload_n 2, 1) := by decide +kernel
theorem dX8_could_9 : decode cX8_could 9 = .ok (.iload_n 3, 1) := by decide +kernel
theorem dX8_could_10 : decode cX8_could 10 = .ok (.aload_n 0, 1) := by decide +kernel
theorem dX8_could_11 : decode cX8_could 11 = .ok (.getfield 63, 3) := by decide +kernel
theorem dX8_could_14 : decode cX8_could 14 = .ok (.aload_n 0, 1) := by decide +kernel
theorem dX8_could_15 : decode cX8_could 15 = .ok (.getfield 66, 3) := by decide +kernel
theorem dX8_could_18 : decode cX8_could 18 = .ok (.invokevirtual 75, 3) := by decide +kernel
theorem dX8_could_21 : decode cX8_could 21 = .ok (.aload_n 0, 1) := by decide +kernel
theorem dX8_could_22 : decode cX8_could 22 = .ok (.getfield 7, 3) := by decide +kernel
theorem dX8_could_25 : decode cX8_could 25 = .ok (.iload_n 1, 1) := by decide +kernel
theorem dX8_could_26 : decode cX8_could 26 = .ok (.iload_n 3, 1) := by decide +kernel
theorem dX8_could_27 : decode cX8_could 27 = .ok (.iconst 0, 1) := by decide +kernel
theorem dX8_could_28 : decode cX8_could 28 = .ok (.invokestatic 44, 3) := by decide +kernel
theorem dX8_could_31 : decode cX8_could 31 = .ok (.iaload, 1) := by decide +kernel
theorem dX8_could_32 : decode cX8_could 32 = .ok (.aload_n 0, 1) := by decide +kernel
theorem dX8_could_33 : decode cX8_could 33 = .ok (.getfield 7, 3) := by decide +kernel
theorem dX8_could_36 : decode cX8_could 36 = .ok (.iload_n 1, 1) := by decide +kernel
theorem dX8_could_37 : decode cX8_could 37 = .ok (.iload_n 2, 1) := by decide +kernel
theorem dX8_could_38 : decode cX8_could 38 = .ok (.iconst 0, 1) := by decide +kernel
theorem dX8_could_39 : decode cX8_could 39 = .ok (.invokestatic 37, 3) := by decide +kernel
theorem dX8_could_42 : decode cX8_could 42 = .ok (.iaload, 1) := by decide +kernel
theorem dX8_could_43 : decode cX8_could 43 = .ok (.if_icmp .le 7, 3) := by decide +kernel
theorem dX8_could_46 : decode cX8_could 46 = .ok (.iconst 1, 1) := by decide +kernel
theorem dX8_could_47 : decode cX8_could 47 = .ok (.goto 17, 3) := by decide +kernel
theorem dX8_could_50 : decode cX8_could 50 = .ok (.aload_n 0, 1) := by decide +kernel
theorem dX8_could_51 : decode cX8_could 51 = .ok (.iload_n 1, 1) := by decide +kernel
theorem dX8_could_52 : decode cX8_could 52 = .ok (.iload_n 3, 1) := by decide +kernel
theorem dX8_could_53 : decode cX8_could 53 = .ok (.invokevirtual 79, 3) := by decide +kernel
theorem dX8_could_56 : decode cX8_could 56 = .ok (.ifCond .eq 7, 3) := by decide +kernel
theorem dX8_could_59 : decode cX8_could 59 = .ok (.iconst 2, 1) := by decide +kernel
theorem dX8_could_60 : decode cX8_could 60 = .ok (.goto 4, 3) := by decide +kernel
theorem dX8_could_63 : decode cX8_could 63 = .ok (.iconst 0, 1) := by decide +kernel
theorem dX8_could_64 : decode cX8_could 64 = .ok (.ireturn, 1) := by decide +kernel
theorem dX8_fixes_0 : decode cX8_fixes 0 = .ok (.iload_n 1, 1) := by decide +kernel
theorem dX8_fixes_1 : decode cX8_fixes 1 = .ok (.iload_n 2, 1) := by decide +kernel
theorem dX8_fixes_2 : decode cX8_fixes 2 = .ok (.bipush 6, 2) := by decide +kernel
theorem dX8_fixes_4 : decode cX8_fixes 4 = .ok (.invokestatic 37, 3) := by decide +kernel
theorem dX8_fixes_7 : decode cX8_fixes 7 = .ok (.istore 4, 2) := by decide +kernel
theorem dX8_fixes_9 : decode cX8_fixes 9 = .ok (.aload_n 0, 1) := by decide +kernel
theorem dX8_fixes_10 : decode cX8_fixes 10 = .ok (.getfield 7, 3) := by decide +kernel
theorem dX8_fixes_13 : decode cX8_fixes 13 = .ok (.iload_n 1, 1) := by decide +kernel
theorem dX8_fixes_14 : decode cX8_fixes 14 = .ok (.iload_n 2, 1) := by decide +kernel
theorem dX8_fixes_15 : decode cX8_fixes 15 = .ok (.bipush 7, 2) := by decide +kernel
theorem dX8_fixes_17 : decode cX8_fixes 17 = .ok (.aload_n 0, 1) := by decide +kernel
theorem dX8_fixes_18 : decode cX8_fixes 18 = .ok (.getfield 7, 3) := by decide +kernel
theorem dX8_fixes_21 : decode cX8_fixes 21 = .ok (.iload 4, 2) := by decide +kernel
theorem dX8_fixes_23 : decode cX8_fixes 23 = .ok (.iaload, 1) := by decide +kernel
theorem dX8_fixes_24 : decode cX8_fixes 24 = .ok (.iadd, 1) := by decide +kernel
theorem dX8_fixes_25 : decode cX8_fixes 25 = .ok (.invokestatic 37, 3) := by decide +kernel
theorem dX8_fixes_28 : decode cX8_fixes 28 = .ok (.iload_n 3, 1) := by decide +kernel
theorem dX8_fixes_29 : decode cX8_fixes 29 = .ok (.iastore, 1) := by decide +kernel
theorem dX8_fixes_30 : decode cX8_fixes 30 = .ok (.aload_n 0, 1) := by decide +kernel
theorem dX8_fixes_31 : decode cX8_fixes 31 = .ok (.getfield 7, 3) := by decide +kernel
theorem dX8_fixes_34 : decode cX8_fixes 34 = .ok (.iload 4, 2) := by decide +kernel
theorem dX8_fixes_36 : decode cX8_fixes 36 = .ok (.dup2, 1) := by decide +kernel
theorem dX8_fixes_37 : decode cX8_fixes 37 = .ok (.iaload, 1) := by decide +kernel
theorem dX8_fixes_38 : decode cX8_fixes 38 = .ok (.iconst 1, 1) := by decide +kernel
theorem dX8_fixes_39 : decode cX8_fixes 39 = .ok (.iadd, 1) := by decide +kernel
theorem dX8_fixes_40 : decode cX8_fixes 40 = .ok (.iastore, 1) := by decide +kernel
theorem dX8_fixes_41 : decode cX8_fixes 41 = .ok (.aload_n 0, 1) := by decide +kernel
theorem dX8_fixes_42 : decode cX8_fixes 42 = .ok (.getfield 7, 3) := by decide +kernel
theorem dX8_fixes_45 : decode cX8_fixes 45 = .ok (.iload_n 1, 1) := by decide +kernel
theorem dX8_fixes_46 : decode cX8_fixes 46 = .ok (.iload_n 3, 1) := by decide +kernel
theorem dX8_fixes_47 : decode cX8_fixes 47 = .ok (.bipush 6, 2) := by decide +kernel
theorem dX8_fixes_49 : decode cX8_fixes 49 = .ok (.invokestatic 44, 3) := by decide +kernel
theorem dX8_fixes_52 : decode cX8_fixes 52 = .ok (.iconst 1, 1) := by decide +kernel
theorem dX8_fixes_53 : decode cX8_fixes 53 = .ok (.iastore, 1) := by decide +kernel
theorem dX8_fixes_54 : decode cX8_fixes 54 = .ok (.aload_n 0, 1) := by decide +kernel
theorem dX8_fixes_55 : decode cX8_fixes 55 = .ok (.getfield 7, 3) := by decide +kernel
theorem dX8_fixes_58 : decode cX8_fixes 58 = .ok (.iload_n 1, 1) := by decide +kernel
theorem dX8_fixes_59 : decode cX8_fixes 59 = .ok (.iload_n 3, 1) := by decide +kernel
theorem dX8_fixes_60 : decode cX8_fixes 60 = .ok (.bipush 7, 2) := by decide +kernel
theorem dX8_fixes_62 : decode cX8_fixes 62 = .ok (.invokestatic 44, 3) := by decide +kernel
theorem dX8_fixes_65 : decode cX8_fixes 65 = .ok (.iload_n 2, 1) := by decide +kernel
theorem dX8_fixes_66 : decode cX8_fixes 66 = .ok (.iastore, 1) := by decide +kernel
theorem dX8_fixes_67 : decode cX8_fixes 67 = .ok (.return_, 1) := by decide +kernel
theorem dX8_doShip_0 : decode cX8_doShip 0 = .ok (.iload_n 1, 1) := by decide +kernel
theorem dX8_doShip_1 : decode cX8_doShip 1 = .ok (.iconst 1, 1) := by decide +kernel
theorem dX8_doShip_2 : decode cX8_doShip 2 = .ok (.bipush 99, 2) := by decide +kernel
theorem dX8_doShip_4 : decode cX8_doShip 4 = .ok (.invokestatic 29, 3) := by decide +kernel
theorem dX8_doShip_7 : decode cX8_doShip 7 = .ok (.ifCond .eq 46, 3) := by decide +kernel
theorem dX8_doShip_10 : decode cX8_doShip 10 = .ok (.iload_n 2, 1) := by decide +kernel
theorem dX8_doShip_11 : decode cX8_doShip 11 = .ok (.iconst 1, 1) := by decide +kernel
theorem dX8_doShip_12 : decode cX8_doShip 12 = .ok (.bipush 20, 2) := by decide +kernel
theorem dX8_doShip_14 : decode cX8_doShip 14 = .ok (.invokestatic 29, 3) := by decide +kernel
theorem dX8_doShip_17 : decode cX8_doShip 17 = .ok (.ifCond .eq 36, 3) := by decide +kernel
theorem dX8_doShip_20 : decode cX8_doShip 20 = .ok (.iload_n 3, 1) := by decide +kernel
theorem dX8_doShip_21 : decode cX8_doShip 21 = .ok (.iconst 1, 1) := by decide +kernel
theorem dX8_doShip_22 : decode cX8_doShip 22 = .ok (.bipush 99, 2) := by decide +kernel
theorem dX8_doShip_24 : decode cX8_doShip 24 = .ok (.invokestatic 29, 3) := by decide +kernel
theorem dX8_doShip_27 : decode cX8_doShip 27 = .ok (.ifCond .eq 26, 3) := by decide +kernel
theorem dX8_doShip_30 : decode cX8_doShip 30 = .ok (.iload 4, 2) := by decide +kernel
theorem dX8_doShip_32 : decode cX8_doShip 32 = .ok (.iconst 0, 1) := by decide +kernel
theorem dX8_doShip_33 : decode cX8_doShip 33 = .ok (.bipush 7, 2) := by decide +kernel
theorem dX8_doShip_35 : decode cX8_doShip 35 = .ok (.invokestatic 29, 3) := by decide +kernel
theorem dX8_doShip_38 : decode cX8_doShip 38 = .ok (.ifCond .eq 15, 3) := by decide +kernel
theorem dX8_doShip_41 : decode cX8_doShip 41 = .ok (.iload 5, 2) := by decide +kernel
theorem dX8_doShip_43 : decode cX8_doShip 43 = .ok (.iconst 0, 1) := by decide +kernel
theorem dX8_doShip_44 : decode cX8_doShip 44 = .ok (.sipush 999, 3) := by decide +kernel
theorem dX8_doShip_47 : decode cX8_doShip 47 = .ok (.invokestatic 29, 3) := by decide +kernel
theorem dX8_doShip_50 : decode cX8_doShip 50 = .ok (.ifCond .ne 6, 3) := by decide +kernel
theorem dX8_doShip_53 : decode cX8_doShip 53 = .ok (.ldc 24, 2) := by decide +kernel
theorem dX8_doShip_55 : decode cX8_doShip 55 = .ok (.ireturn, 1) := by decide +kernel
theorem dX8_doShip_56 : decode cX8_doShip 56 = .ok (.aload_n 0, 1) := by decide +kernel
theorem dX8_doShip_57 : decode cX8_doShip 57 = .ok (.getfield 7, 3) := by decide +kernel
theorem dX8_doShip_60 : decode cX8_doShip 60 = .ok (.bipush 16, 2) := by decide +kernel
theorem dX8_doShip_62 : decode cX8_doShip 62 = .ok (.iaload, 1) := by decide +kernel
theorem dX8_doShip_63 : decode cX8_doShip 63 = .ok (.iconst 5, 1) := by decide +kernel
theorem dX8_doShip_64 : decode cX8_doShip 64 = .ok (.if_icmp .ne 6, 3) := by decide +kernel
theorem dX8_doShip_67 : decode cX8_doShip 67 = .ok (.ldc 90, 2) := by decide +kernel
theorem dX8_doShip_69 : decode cX8_doShip 69 = .ok (.ireturn, 1) := by decide +kernel
theorem dX8_doShip_70 : decode cX8_doShip 70 = .ok (.aload_n 0, 1) := by decide +kernel
theorem dX8_doShip_71 : decode cX8_doShip 71 = .ok (.getfield 7, 3) := by decide +kernel
theorem dX8_doShip_74 : decode cX8_doShip 74 = .ok (.bipush 16, 2) := by decide +kernel
theorem dX8_doShip_76 : decode cX8_doShip 76 = .ok (.iaload, 1) := by decide +kernel
theorem dX8_doShip_77 : decode cX8_doShip 77 = .ok (.istore 6, 2) := by decide +kernel
theorem dX8_doShip_79 : decode cX8_doShip 79 = .ok (.aload_n 0, 1) := by decide +kernel
theorem dX8_doShip_80 : decode cX8_doShip 80 = .ok (.getfield 7, 3) := by decide +kernel
theorem dX8_doShip_83 : decode cX8_doShip 83 = .ok (.iconst 0, 1) := by decide +kernel
theorem dX8_doShip_84 : decode cX8_doShip 84 = .ok (.iload 6, 2) := by decide +kernel
theorem dX8_doShip_86 : decode cX8_doShip 86 = .ok (.iconst 0, 1) := by decide +kernel
theorem dX8_doShip_87 : decode cX8_doShip 87 = .ok (.invokestatic 37, 3) := by decide +kernel
theorem dX8_doShip_90 : decode cX8_doShip 90 = .ok (.iload_n 1, 1) := by decide +kernel
theorem dX8_doShip_91 : decode cX8_doShip 91 = .ok (.iastore, 1) := by decide +kernel
theorem dX8_doShip_92 : decode cX8_doShip 92 = .ok (.aload_n 0, 1) := by decide +kernel
theorem dX8_doShip_93 : decode cX8_doShip 93 = .ok (.getfield 7, 3) := by decide +kernel
theorem dX8_doShip_96 : decode cX8_doShip 96 = .ok (.iconst 0, 1) := by decide +kernel
theorem dX8_doShip_97 : decode cX8_doShip 97 = .ok (.iload 6, 2) := by decide +kernel
theorem dX8_doShip_99 : decode cX8_doShip 99 = .ok (.iconst 1, 1) := by decide +kernel
theorem dX8_doShip_100 : decode cX8_doShip 100 = .ok (.invokestatic 37, 3) := by decide +kernel
theorem dX8_doShip_103 : decode cX8_doShip 103 = .ok (.iload_n 2, 1) := by decide +kernel
theorem dX8_doShip_104 : decode cX8_doShip 104 = .ok (.iastore, 1) := by decide +kernel
theorem dX8_doShip_105 : decode cX8_doShip 105 = .ok (.aload_n 0, 1) := by decide +kernel
theorem dX8_doShip_106 : decode cX8_doShip 106 = .ok (.getfield 7, 3) := by decide +kernel
theorem dX8_doShip_109 : decode cX8_doShip 109 = .ok (.iconst 0, 1) := by decide +kernel
theorem dX8_doShip_110 : decode cX8_doShip 110 = .ok (.iload 6, 2) := by decide +kernel
theorem dX8_doShip_112 : decode cX8_doShip 112 = .ok (.iconst 2, 1) := by decide +kernel
theorem dX8_doShip_113 : decode cX8_doShip 113 = .ok (.invokestatic 37, 3) := by decide +kernel
theorem dX8_doShip_116 : decode cX8_doShip 116 = .ok (.iload_n 3, 1) := by decide +kernel
theorem dX8_doShip_117 : decode cX8_doShip 117 = .ok (.iastore, 1) := by decide +kernel
theorem dX8_doShip_118 : decode cX8_doShip 118 = .ok (.aload_n 0, 1) := by decide +kernel
theorem dX8_doShip_119 : decode cX8_doShip 119 = .ok (.getfield 7, 3) := by decide +kernel
theorem dX8_doShip_122 : decode cX8_doShip 122 = .ok (.iconst 0, 1) := by decide +kernel
theorem dX8_doShip_123 : decode cX8_doShip 123 = .ok (.iload 6, 2) := by decide +kernel
theorem dX8_doShip_125 : decode cX8_doShip 125 = .ok (.iconst 3, 1) := by decide +kernel
theorem dX8_doShip_126 : decode cX8_doShip 126 = .ok (.invokestatic 37, 3) := by decide +kernel
theorem dX8_doShip_129 : decode cX8_doShip 129 = .ok (.iload 4, 2) := by decide +kernel
theorem dX8_doShip_131 : decode cX8_doShip 131 = .ok (.iastore, 1) := by decide +kernel
theorem dX8_doShip_132 : decode cX8_doShip 132 = .ok (.aload_n 0, 1) := by decide +kernel
theorem dX8_doShip_133 : decode cX8_doShip 133 = .ok (.getfield 7, 3) := by decide +kernel
theorem dX8_doShip_136 : decode cX8_doShip 136 = .ok (.iconst 0, 1) := by decide +kernel
theorem dX8_doShip_137 : decode cX8_doShip 137 = .ok (.iload 6, 2) := by decide +kernel
theorem dX8_doShip_139 : decode cX8_doShip 139 = .ok (.iconst 4, 1) := by decide +kernel
theorem dX8_doShip_140 : decode cX8_doShip 140 = .ok (.invokestatic 37, 3) := by decide +kernel
theorem dX8_doShip_143 : decode cX8_doShip 143 = .ok (.iload 5, 2) := by decide +kernel
theorem dX8_doShip_145 : decode cX8_doShip 145 = .ok (.iastore, 1) := by decide +kernel
theorem dX8_doShip_146 : decode cX8_doShip 146 = .ok (.aload_n 0, 1) := by decide +kernel
theorem dX8_doShip_147 : decode cX8_doShip 147 = .ok (.getfield 7, 3) := by decide +kernel
theorem dX8_doShip_150 : decode cX8_doShip 150 = .ok (.iconst 0, 1) := by decide +kernel
theorem dX8_doShip_151 : decode cX8_doShip 151 = .ok (.iload 6, 2) := by decide +kernel
theorem dX8_doShip_153 : decode cX8_doShip 153 = .ok (.iconst 5, 1) := by decide +kernel
theorem dX8_doShip_154 : decode cX8_doShip 154 = .ok (.invokestatic 37, 3) := by decide +kernel
theorem dX8_doShip_157 : decode cX8_doShip 157 = .ok (.iconst 0, 1) := by decide +kernel
theorem dX8_doShip_158 : decode cX8_doShip 158 = .ok (.iastore, 1) := by decide +kernel
theorem dX8_doShip_159 : decode cX8_doShip 159 = .ok (.aload_n 0, 1) := by decide +kernel
theorem dX8_doShip_160 : decode cX8_doShip 160 = .ok (.getfield 7, 3) := by decide +kernel
theorem dX8_doShip_163 : decode cX8_doShip 163 = .ok (.iconst 0, 1) := by decide +kernel
theorem dX8_doShip_164 : decode cX8_doShip 164 = .ok (.iload 6, 2) := by decide +kernel
theorem dX8_doShip_166 : decode cX8_doShip 166 = .ok (.bipush 6, 2) := by decide +kernel
theorem dX8_doShip_168 : decode cX8_doShip 168 = .ok (.invokestatic 37, 3) := by decide +kernel
theorem dX8_doShip_171 : decode cX8_doShip 171 = .ok (.iconst 0, 1) := by decide +kernel
theorem dX8_doShip_172 : decode cX8_doShip 172 = .ok (.iastore, 1) := by decide +kernel
theorem dX8_doShip_173 : decode cX8_doShip 173 = .ok (.aload_n 0, 1) := by decide +kernel
theorem dX8_doShip_174 : decode cX8_doShip 174 = .ok (.getfield 7, 3) := by decide +kernel
theorem dX8_doShip_177 : decode cX8_doShip 177 = .ok (.bipush 16, 2) := by decide +kernel
theorem dX8_doShip_179 : decode cX8_doShip 179 = .ok (.dup2, 1) := by decide +kernel
theorem dX8_doShip_180 : decode cX8_doShip 180 = .ok (.iaload, 1) := by decide +kernel
theorem dX8_doShip_181 : decode cX8_doShip 181 = .ok (.iconst 1, 1) := by decide +kernel
theorem dX8_doShip_182 : decode cX8_doShip 182 = .ok (.iadd, 1) := by decide +kernel
theorem dX8_doShip_183 : decode cX8_doShip 183 = .ok (.iastore, 1) := by decide +kernel
theorem dX8_doShip_184 : decode cX8_doShip 184 = .ok (.iload 6, 2) := by decide +kernel
theorem dX8_doShip_186 : decode cX8_doShip 186 = .ok (.ireturn, 1) := by decide +kernel
theorem dX8_doCargo_0 : decode cX8_doCargo 0 = .ok (.iload_n 1, 1) := by decide +kernel
theorem dX8_doCargo_1 : decode cX8_doCargo 1 = .ok (.iconst 1, 1) := by decide +kernel
theorem dX8_doCargo_2 : decode cX8_doCargo 2 = .ok (.bipush 99, 2) := by decide +kernel
theorem dX8_doCargo_4 : decode cX8_doCargo 4 = .ok (.invokestatic 29, 3) := by decide +kernel
theorem dX8_doCargo_7 : decode cX8_doCargo 7 = .ok (.ifCond .eq 64, 3) := by decide +kernel
theorem dX8_doCargo_10 : decode cX8_doCargo 10 = .ok (.iload_n 2, 1) := by decide +kernel
theorem dX8_doCargo_11 : decode cX8_doCargo 11 = .ok (.iconst 0, 1) := by decide +kernel
theorem dX8_doCargo_12 : decode cX8_doCargo 12 = .ok (.bipush 7, 2) := by decide +kernel
theorem dX8_doCargo_14 : decode cX8_doCargo 14 = .ok (.invokestatic 29, 3) := by decide +kernel
theorem dX8_doCargo_17 : decode cX8_doCargo 17 = .ok (.ifCond .eq 54, 3) := by decide +kernel
theorem dX8_doCargo_20 : decode cX8_doCargo 20 = .ok (.iload_n 3, 1) := by decide +kernel
theorem dX8_doCargo_21 : decode cX8_doCargo 21 = .ok (.iconst 0, 1) := by decide +kernel
theorem dX8_doCargo_22 : decode cX8_doCargo 22 = .ok (.bipush 7, 2) := by decide +kernel
theorem dX8_doCargo_24 : decode cX8_doCargo 24 = .ok (.invokestatic 29, 3) := by decide +kernel
theorem dX8_doCargo_27 : decode cX8_doCargo 27 = .ok (.ifCond .eq 44, 3) := by decide +kernel
theorem dX8_doCargo_30 : decode cX8_doCargo 30 = .ok (.iload_n 2, 1) := by decide +kernel
theorem dX8_doCargo_31 : decode cX8_doCargo 31 = .ok (.iload_n 3, 1) := by decide +kernel
theorem dX8_doCargo_32 : decode cX8_doCargo 32 = .ok (.if_icmp .eq 39, 3) := by decide +kernel
theorem dX8_doCargo_35 : decode cX8_doCargo 35 = .ok (.iload 4, 2) := by decide +kernel
theorem dX8_doCargo_37 : decode cX8_doCargo 37 = .ok (.iconst 0, 1) := by decide +kernel
theorem dX8_doCargo_38 : decode cX8_doCargo 38 = .ok (.sipush 999, 3) := by decide +kernel
theorem dX8_doCargo_41 : decode cX8_doCargo 41 = .ok (.invokestatic 29, 3) := by decide +kernel
theorem dX8_doCargo_44 : decode cX8_doCargo 44 = .ok (.ifCond .eq 27, 3) := by decide +kernel
theorem dX8_doCargo_47 : decode cX8_doCargo 47 = .ok (.iload 5, 2) := by decide +kernel
theorem dX8_doCargo_49 : decode cX8_doCargo 49 = .ok (.iload 4, 2) := by decide +kernel
theorem dX8_doCargo_51 : decode cX8_doCargo 51 = .ok (.sipush 999, 3) := by decide +kernel
theorem dX8_doCargo_54 : decode cX8_doCargo 54 = .ok (.invokestatic 29, 3) := by decide +kernel
theorem dX8_doCargo_57 : decode cX8_doCargo 57 = .ok (.ifCond .eq 14, 3) := by decide +kernel
theorem dX8_doCargo_60 : decode cX8_doCargo 60 = .ok (.iload 6, 2) := by decide +kernel
theorem dX8_doCargo_62 : decode cX8_doCargo 62 = .ok (.iconst 1, 1) := by decide +kernel
theorem dX8_doCargo_63 : decode cX8_doCargo 63 = .ok (.bipush 99, 2) := by decide +kernel
theorem dX8_doCargo_65 : decode cX8_doCargo 65 = .ok (.invokestatic 29, 3) := by decide +kernel
theorem dX8_doCargo_68 : decode cX8_doCargo 68 = .ok (.ifCond .ne 6, 3) := by decide +kernel
theorem dX8_doCargo_71 : decode cX8_doCargo 71 = .ok (.ldc 24, 2) := by decide +kernel
theorem dX8_doCargo_73 : decode cX8_doCargo 73 = .ok (.ireturn, 1) := by decide +kernel
theorem dX8_doCargo_74 : decode cX8_doCargo 74 = .ok (.aload_n 0, 1) := by decide +kernel
theorem dX8_doCargo_75 : decode cX8_doCargo 75 = .ok (.getfield 7, 3) := by decide +kernel
theorem dX8_doCargo_78 : decode cX8_doCargo 78 = .ok (.bipush 107, 2) := by decide +kernel
theorem dX8_doCargo_80 : decode cX8_doCargo 80 = .ok (.iaload, 1) := by decide +kernel
theorem dX8_doCargo_81 : decode cX8_doCargo 81 = .ok (.bipush 10, 2) := by decide +kernel
theorem dX8_doCargo_83 : decode cX8_doCargo 83 = .ok (.if_icmp .ne 6, 3) := by decide +kernel
theorem dX8_doCargo_86 : decode cX8_doCargo 86 = .ok (.ldc 90, 2) := by decide +kernel
theorem dX8_doCargo_88 : decode cX8_doCargo 88 = .ok (.ireturn, 1) := by decide +kernel
theorem dX8_doCargo_89 : decode cX8_doCargo 89 = .ok (.aload_n 0, 1) := by decide +kernel
theorem dX8_doCargo_90 : decode cX8_doCargo 90 = .ok (.getfield 7, 3) := by decide +kernel
theorem dX8_doCargo_93 : decode cX8_doCargo 93 = .ok (.bipush 107, 2) := by decide +kernel
theorem dX8_doCargo_95 : decode cX8_doCargo 95 = .ok (.iaload, 1) := by decide +kernel
theorem dX8_doCargo_96 : decode cX8_doCargo 96 = .ok (.istore 7, 2) := by decide +kernel
theorem dX8_doCargo_98 : decode cX8_doCargo 98 = .ok (.aload_n 0, 1) := by decide +kernel
theorem dX8_doCargo_99 : decode cX8_doCargo 99 = .ok (.getfield 7, 3) := by decide +kernel
theorem dX8_doCargo_102 : decode cX8_doCargo 102 = .ok (.iconst 0, 1) := by decide +kernel
theorem dX8_doCargo_103 : decode cX8_doCargo 103 = .ok (.iload 7, 2) := by decide +kernel
theorem dX8_doCargo_105 : decode cX8_doCargo 105 = .ok (.iconst 0, 1) := by decide +kernel
theorem dX8_doCargo_106 : decode cX8_doCargo 106 = .ok (.invokestatic 44, 3) := by decide +kernel
theorem dX8_doCargo_109 : decode cX8_doCargo 109 = .ok (.iload_n 1, 1) := by decide +kernel
theorem dX8_doCargo_110 : decode cX8_doCargo 110 = .ok (.iastore, 1) := by decide +kernel
theorem dX8_doCargo_111 : decode cX8_doCargo 111 = .ok (.aload_n 0, 1) := by decide +kernel
theorem dX8_doCargo_112 : decode cX8_doCargo 112 = .ok (.getfield 7, 3) := by decide +kernel
theorem dX8_doCargo_115 : decode cX8_doCargo 115 = .ok (.iconst 0, 1) := by decide +kernel
theorem dX8_doCargo_116 : decode cX8_doCargo 116 = .ok (.iload 7, 2) := by decide +kernel
theorem dX8_doCargo_118 : decode cX8_doCargo 118 = .ok (.iconst 1, 1) := by decide +kernel
theorem dX8_doCargo_119 : decode cX8_doCargo 119 = .ok (.invokestatic 44, 3) := by decide +kernel
theorem dX8_doCargo_122 : decode cX8_doCargo 122 = .ok (.iload_n 2, 1) := by decide +kernel
theorem dX8_doCargo_123 : decode cX8_doCargo 123 = .ok (.iastore, 1) := by decide +kernel
theorem dX8_doCargo_124 : decode cX8_doCargo 124 = .ok (.aload_n 0, 1) := by decide +kernel
theorem dX8_doCargo_125 : decode cX8_doCargo 125 = .ok (.getfield 7, 3) := by decide +kernel
theorem dX8_doCargo_128 : decode cX8_doCargo 128 = .ok (.iconst 0, 1) := by decide +kernel
theorem dX8_doCargo_129 : decode cX8_doCargo 129 = .ok (.iload 7, 2) := by decide +kernel
theorem dX8_doCargo_131 : decode cX8_doCargo 131 = .ok (.iconst 2, 1) := by decide +kernel
theorem dX8_doCargo_132 : decode cX8_doCargo 132 = .ok (.invokestatic 44, 3) := by decide +kernel
theorem dX8_doCargo_135 : decode cX8_doCargo 135 = .ok (.iload_n 3, 1) := by decide +kernel
theorem dX8_doCargo_136 : decode cX8_doCargo 136 = .ok (.iastore, 1) := by decide +kernel
theorem dX8_doCargo_137 : decode cX8_doCargo 137 = .ok (.aload_n 0, 1) := by decide +kernel
theorem dX8_doCargo_138 : decode cX8_doCargo 138 = .ok (.getfield 7, 3) := by decide +kernel
theorem dX8_doCargo_141 : decode cX8_doCargo 141 = .ok (.iconst 0, 1) := by decide +kernel
theorem dX8_doCargo_142 : decode cX8_doCargo 142 = .ok (.iload 7, 2) := by decide +kernel
theorem dX8_doCargo_144 : decode cX8_doCargo 144 = .ok (.iconst 3, 1) := by decide +kernel
theorem dX8_doCargo_145 : decode cX8_doCargo 145 = .ok (.invokestatic 44, 3) := by decide +kernel
theorem dX8_doCargo_148 : decode cX8_doCargo 148 = .ok (.iload 4, 2) := by decide +kernel
theorem dX8_doCargo_150 : decode cX8_doCargo 150 = .ok (.iastore, 1) := by decide +kernel
theorem dX8_doCargo_151 : decode cX8_doCargo 151 = .ok (.aload_n 0, 1) := by decide +kernel
theorem dX8_doCargo_152 : decode cX8_doCargo 152 = .ok (.getfield 7, 3) := by decide +kernel
theorem dX8_doCargo_155 : decode cX8_doCargo 155 = .ok (.iconst 0, 1) := by decide +kernel
theorem dX8_doCargo_156 : decode cX8_doCargo 156 = .ok (.iload 7, 2) := by decide +kernel
theorem dX8_doCargo_158 : decode cX8_doCargo 158 = .ok (.iconst 4, 1) := by decide +kernel
theorem dX8_doCargo_159 : decode cX8_doCargo 159 = .ok (.invokestatic 44, 3) := by decide +kernel
theorem dX8_doCargo_162 : decode cX8_doCargo 162 = .ok (.iload 5, 2) := by decide +kernel
theorem dX8_doCargo_164 : decode cX8_doCargo 164 = .ok (.iastore, 1) := by decide +kernel
theorem dX8_doCargo_165 : decode cX8_doCargo 165 = .ok (.aload_n 0, 1) := by decide +kernel
theorem dX8_doCargo_166 : decode cX8_doCargo 166 = .ok (.getfield 7, 3) := by decide +kernel
theorem dX8_doCargo_169 : decode cX8_doCargo 169 = .ok (.iconst 0, 1) := by decide +kernel
theorem dX8_doCargo_170 : decode cX8_doCargo 170 = .ok (.iload 7, 2) := by decide +kernel
theorem dX8_doCargo_172 : decode cX8_doCargo 172 = .ok (.iconst 5, 1) := by decide +kernel
theorem dX8_doCargo_173 : decode cX8_doCargo 173 = .ok (.invokestatic 44, 3) := by decide +kernel
theorem dX8_doCargo_176 : decode cX8_doCargo 176 = .ok (.iload 6, 2) := by decide +kernel
theorem dX8_doCargo_178 : decode cX8_doCargo 178 = .ok (.iastore, 1) := by decide +kernel
theorem dX8_doCargo_179 : decode cX8_doCargo 179 = .ok (.aload_n 0, 1) := by decide +kernel
theorem dX8_doCargo_180 : decode cX8_doCargo 180 = .ok (.getfield 7, 3) := by decide +kernel
theorem dX8_doCargo_183 : decode cX8_doCargo 183 = .ok (.iconst 0, 1) := by decide +kernel
theorem dX8_doCargo_184 : decode cX8_doCargo 184 = .ok (.iload 7, 2) := by decide +kernel
theorem dX8_doCargo_186 : decode cX8_doCargo 186 = .ok (.bipush 6, 2) := by decide +kernel
theorem dX8_doCargo_188 : decode cX8_doCargo 188 = .ok (.invokestatic 44, 3) := by decide +kernel
theorem dX8_doCargo_191 : decode cX8_doCargo 191 = .ok (.iconst 0, 1) := by decide +kernel
theorem dX8_doCargo_192 : decode cX8_doCargo 192 = .ok (.iastore, 1) := by decide +kernel
theorem dX8_doCargo_193 : decode cX8_doCargo 193 = .ok (.aload_n 0, 1) := by decide +kernel
theorem dX8_doCargo_194 : decode cX8_doCargo 194 = .ok (.getfield 7, 3) := by decide +kernel
theorem dX8_doCargo_197 : decode cX8_doCargo 197 = .ok (.bipush 107, 2) := by decide +kernel
theorem dX8_doCargo_199 : decode cX8_doCargo 199 = .ok (.dup2, 1) := by decide +kernel
theorem dX8_doCargo_200 : decode cX8_doCargo 200 = .ok (.iaload, 1) := by decide +kernel
theorem dX8_doCargo_201 : decode cX8_doCargo 201 = .ok (.iconst 1, 1) := by decide +kernel
theorem dX8_doCargo_202 : decode cX8_doCargo 202 = .ok (.iadd, 1) := by decide +kernel
theorem dX8_doCargo_203 : decode cX8_doCargo 203 = .ok (.iastore, 1) := by decide +kernel
theorem dX8_doCargo_204 : decode cX8_doCargo 204 = .ok (.iload 7, 2) := by decide +kernel
theorem dX8_doCargo_206 : decode cX8_doCargo 206 = .ok (.ireturn, 1) := by decide +kernel
theorem dX8_doFix_0 : decode cX8_doFix 0 = .ok (.aload_n 0, 1) := by decide +kernel
theorem dX8_doFix_1 : decode cX8_doFix 1 = .ok (.iload_n 1, 1) := by decide +kernel
theorem dX8_doFix_2 : decode cX8_doFix 2 = .ok (.invokevirtual 91, 3) := by decide +kernel
theorem dX8_doFix_5 : decode cX8_doFix 5 = .ok (.ifCond .eq 11, 3) := by decide +kernel
theorem dX8_doFix_8 : decode cX8_doFix 8 = .ok (.aload_n 0, 1) := by decide +kernel
theorem dX8_doFix_9 : decode cX8_doFix 9 = .ok (.iload_n 2, 1) := by decide +kernel
theorem dX8_doFix_10 : decode cX8_doFix 10 = .ok (.invokevirtual 95, 3) := by decide +kernel
theorem dX8_doFix_13 : decode cX8_doFix 13 = .ok (.ifCond .ne 6, 3) := by decide +kernel
theorem dX8_doFix_16 : decode cX8_doFix 16 = .ok (.ldc 24, 2) := by decide +kernel
theorem dX8_doFix_18 : decode cX8_doFix 18 = .ok (.ireturn, 1) := by decide +kernel
theorem dX8_doFix_19 : decode cX8_doFix 19 = .ok (.aload_n 0, 1) := by decide +kernel
theorem dX8_doFix_20 : decode cX8_doFix 20 = .ok (.getfield 7, 3) := by decide +kernel
theorem dX8_doFix_23 : decode cX8_doFix 23 = .ok (.iconst 0, 1) := by decide +kernel
theorem dX8_doFix_24 : decode cX8_doFix 24 = .ok (.iload_n 2, 1) := by decide +kernel
theorem dX8_doFix_25 : decode cX8_doFix 25 = .ok (.bipush 6, 2) := by decide +kernel
theorem dX8_doFix_27 : decode cX8_doFix 27 = .ok (.invokestatic 44, 3) := by decide +kernel
theorem dX8_doFix_30 : decode cX8_doFix 30 = .ok (.iaload, 1) := by decide +kernel
theorem dX8_doFix_31 : decode cX8_doFix 31 = .ok (.ifCond .ne 13, 3) := by decide +kernel
theorem dX8_doFix_34 : decode cX8_doFix 34 = .ok (.aload_n 0, 1) := by decide +kernel
theorem dX8_doFix_35 : decode cX8_doFix 35 = .ok (.iconst 0, 1) := by decide +kernel
theorem dX8_doFix_36 : decode cX8_doFix 36 = .ok (.iload_n 1, 1) := by decide +kernel
theorem dX8_doFix_37 : decode cX8_doFix 37 = .ok (.iload_n 2, 1) := by decide +kernel
theorem dX8_doFix_38 : decode cX8_doFix 38 = .ok (.invokevirtual 98, 3) := by decide +kernel
theorem dX8_doFix_41 : decode cX8_doFix 41 = .ok (.ifCond .le 6, 3) := by decide +kernel
theorem dX8_doFix_44 : decode cX8_doFix 44 = .ok (.ldc 101, 2) := by decide +kernel
theorem dX8_doFix_46 : decode cX8_doFix 46 = .ok (.ireturn, 1) := by decide +kernel
theorem dX8_doFix_47 : decode cX8_doFix 47 = .ok (.aload_n 0, 1) := by decide +kernel
theorem dX8_doFix_48 : decode cX8_doFix 48 = .ok (.iconst 0, 1) := by decide +kernel
theorem dX8_doFix_49 : decode cX8_doFix 49 = .ok (.iload_n 1, 1) := by decide +kernel
theorem dX8_doFix_50 : decode cX8_doFix 50 = .ok (.iload_n 2, 1) := by decide +kernel
theorem dX8_doFix_51 : decode cX8_doFix 51 = .ok (.invokevirtual 102, 3) := by decide +kernel
theorem dX8_doFix_54 : decode cX8_doFix 54 = .ok (.aload_n 0, 1) := by decide +kernel
theorem dX8_doFix_55 : decode cX8_doFix 55 = .ok (.getfield 57, 3) := by decide +kernel
theorem dX8_doFix_58 : decode cX8_doFix 58 = .ok (.ireturn, 1) := by decide +kernel
theorem dX8_doDelay_0 : decode cX8_doDelay 0 = .ok (.aload_n 0, 1) := by decide +kernel
theorem dX8_doDelay_1 : decode cX8_doDelay 1 = .ok (.iload_n 1, 1) := by decide +kernel
theorem dX8_doDelay_2 : decode cX8_doDelay 2 = .ok (.invokevirtual 91, 3) := by decide +kernel
theorem dX8_doDelay_5 : decode cX8_doDelay 5 = .ok (.ifCond .eq 13, 3) := by decide +kernel
theorem dX8_doDelay_8 : decode cX8_doDelay 8 = .ok (.iload_n 2, 1) := by decide +kernel
theorem dX8_doDelay_9 : decode cX8_doDelay 9 = .ok (.iconst 1, 1) := by decide +kernel
theorem dX8_doDelay_10 : decode cX8_doDelay 10 = .ok (.bipush 99, 2) := by decide +kernel
theorem dX8_doDelay_12 : decode cX8_doDelay 12 = .ok (.invokestatic 29, 3) := by decide +kernel
theorem dX8_doDelay_15 : decode cX8_doDelay 15 = .ok (.ifCond .ne 6, 3) := by decide +kernel
theorem dX8_doDelay_18 : decode cX8_doDelay 18 = .ok (.ldc 24, 2) := by decide +kernel
theorem dX8_doDelay_20 : decode cX8_doDelay 20 = .ok (.ireturn, 1) := by decide +kernel
theorem dX8_doDelay_21 : decode cX8_doDelay 21 = .ok (.aload_n 0, 1) := by decide +kernel
theorem dX8_doDelay_22 : decode cX8_doDelay 22 = .ok (.getfield 7, 3) := by decide +kernel
theorem dX8_doDelay_25 : decode cX8_doDelay 25 = .ok (.iconst 0, 1) := by decide +kernel
theorem dX8_doDelay_26 : decode cX8_doDelay 26 = .ok (.iload_n 1, 1) := by decide +kernel
theorem dX8_doDelay_27 : decode cX8_doDelay 27 = .ok (.iconst 4, 1) := by decide +kernel
theorem dX8_doDelay_28 : decode cX8_doDelay 28 = .ok (.invokestatic 37, 3) := by decide +kernel
theorem dX8_doDelay_31 : decode cX8_doDelay 31 = .ok (.iaload, 1) := by decide +kernel
theorem dX8_doDelay_32 : decode cX8_doDelay 32 = .ok (.iload_n 2, 1) := by decide +kernel
theorem dX8_doDelay_33 : decode cX8_doDelay 33 = .ok (.iadd, 1) := by decide +kernel
theorem dX8_doDelay_34 : decode cX8_doDelay 34 = .ok (.sipush 1999, 3) := by decide +kernel
theorem dX8_doDelay_37 : decode cX8_doDelay 37 = .ok (.if_icmp .le 6, 3) := by decide +kernel
theorem dX8_doDelay_40 : decode cX8_doDelay 40 = .ok (.ldc 90, 2) := by decide +kernel
theorem dX8_doDelay_42 : decode cX8_doDelay 42 = .ok (.ireturn, 1) := by decide +kernel
theorem dX8_doDelay_43 : decode cX8_doDelay 43 = .ok (.aload_n 0, 1) := by decide +kernel
theorem dX8_doDelay_44 : decode cX8_doDelay 44 = .ok (.getfield 7, 3) := by decide +kernel
theorem dX8_doDelay_47 : decode cX8_doDelay 47 = .ok (.iconst 0, 1) := by decide +kernel
theorem dX8_doDelay_48 : decode cX8_doDelay 48 = .ok (.iload_n 1, 1) := by decide +kernel
theorem dX8_doDelay_49 : decode cX8_doDelay 49 = .ok (.iconst 4, 1) := by decide +kernel
theorem dX8_doDelay_50 : decode cX8_doDelay 50 = .ok (.invokestatic 37, 3) := by decide +kernel
theorem dX8_doDelay_53 : decode cX8_doDelay 53 = .ok (.dup2, 1) := by decide +kernel
theorem dX8_doDelay_54 : decode cX8_doDelay 54 = .ok (.iaload, 1) := by decide +kernel
theorem dX8_doDelay_55 : decode cX8_doDelay 55 = .ok (.iload_n 2, 1) := by decide +kernel
theorem dX8_doDelay_56 : decode cX8_doDelay 56 = .ok (.iadd, 1) := by decide +kernel
theorem dX8_doDelay_57 : decode cX8_doDelay 57 = .ok (.iastore, 1) := by decide +kernel
theorem dX8_doDelay_58 : decode cX8_doDelay 58 = .ok (.aload_n 0, 1) := by decide +kernel
theorem dX8_doDelay_59 : decode cX8_doDelay 59 = .ok (.iconst 0, 1) := by decide +kernel
theorem dX8_doDelay_60 : decode cX8_doDelay 60 = .ok (.iload_n 1, 1) := by decide +kernel
theorem dX8_doDelay_61 : decode cX8_doDelay 61 = .ok (.invokevirtual 87, 3) := by decide +kernel
theorem dX8_doDelay_64 : decode cX8_doDelay 64 = .ok (.aload_n 0, 1) := by decide +kernel
theorem dX8_doDelay_65 : decode cX8_doDelay 65 = .ok (.getfield 7, 3) := by decide +kernel
theorem dX8_doDelay_68 : decode cX8_doDelay 68 = .ok (.iconst 0, 1) := by decide +kernel
theorem dX8_doDelay_69 : decode cX8_doDelay 69 = .ok (.iload_n 1, 1) := by decide +kernel
theorem dX8_doDelay_70 : decode cX8_doDelay 70 = .ok (.bipush 6, 2) := by decide +kernel
theorem dX8_doDelay_72 : decode cX8_doDelay 72 = .ok (.invokestatic 37, 3) := by decide +kernel
theorem dX8_doDelay_75 : decode cX8_doDelay 75 = .ok (.iaload, 1) := by decide +kernel
theorem dX8_doDelay_76 : decode cX8_doDelay 76 = .ok (.aload_n 0, 1) := by decide +kernel
theorem dX8_doDelay_77 : decode cX8_doDelay 77 = .ok (.getfield 72, 3) := by decide +kernel
theorem dX8_doDelay_80 : decode cX8_doDelay 80 = .ok (.isub, 1) := by decide +kernel
theorem dX8_doDelay_81 : decode cX8_doDelay 81 = .ok (.istore_n 3, 1) := by decide +kernel
theorem dX8_doDelay_82 : decode cX8_doDelay 82 = .ok (.aload_n 0, 1) := by decide +kernel
theorem dX8_doDelay_83 : decode cX8_doDelay 83 = .ok (.getfield 72, 3) := by decide +kernel
theorem dX8_doDelay_86 : decode cX8_doDelay 86 = .ok (.istore 4, 2) := by decide +kernel
theorem dX8_doDelay_88 : decode cX8_doDelay 88 = .ok (.iload 4, 2) := by decide +kernel
theorem dX8_doDelay_90 : decode cX8_doDelay 90 = .ok (.aload_n 0, 1) := by decide +kernel
theorem dX8_doDelay_91 : decode cX8_doDelay 91 = .ok (.getfield 7, 3) := by decide +kernel
theorem dX8_doDelay_94 : decode cX8_doDelay 94 = .ok (.iconst 0, 1) := by decide +kernel
theorem dX8_doDelay_95 : decode cX8_doDelay 95 = .ok (.iload_n 1, 1) := by decide +kernel
theorem dX8_doDelay_96 : decode cX8_doDelay 96 = .ok (.bipush 6, 2) := by decide +kernel
theorem dX8_doDelay_98 : decode cX8_doDelay 98 = .ok (.invokestatic 37, 3) := by decide +kernel
theorem dX8_doDelay_101 : decode cX8_doDelay 101 = .ok (.iaload, 1) := by decide +kernel
theorem dX8_doDelay_102 : decode cX8_doDelay 102 = .ok (.if_icmp .ge 36, 3) := by decide +kernel
theorem dX8_doDelay_105 : decode cX8_doDelay 105 = .ok (.aload_n 0, 1) := by decide +kernel
theorem dX8_doDelay_106 : decode cX8_doDelay 106 = .ok (.getfield 7, 3) := by decide +kernel
theorem dX8_doDelay_109 : decode cX8_doDelay 109 = .ok (.iconst 0, 1) := by decide +kernel
theorem dX8_doDelay_110 : decode cX8_doDelay 110 = .ok (.aload_n 0, 1) := by decide +kernel
theorem dX8_doDelay_111 : decode cX8_doDelay 111 = .ok (.getfield 7, 3) := by decide +kernel
theorem dX8_doDelay_114 : decode cX8_doDelay 114 = .ok (.iconst 0, 1) := by decide +kernel
theorem dX8_doDelay_115 : decode cX8_doDelay 115 = .ok (.iload_n 1, 1) := by decide +kernel
theorem dX8_doDelay_116 : decode cX8_doDelay 116 = .ok (.bipush 7, 2) := by decide +kernel
theorem dX8_doDelay_118 : decode cX8_doDelay 118 = .ok (.iload 4, 2) := by decide +kernel
theorem dX8_doDelay_120 : decode cX8_doDelay 120 = .ok (.iadd, 1) := by decide +kernel
theorem dX8_doDelay_121 : decode cX8_doDelay 121 = .ok (.invokestatic 37, 3) := by decide +kernel
theorem dX8_doDelay_124 : decode cX8_doDelay 124 = .ok (.iaload, 1) := by decide +kernel
theorem dX8_doDelay_125 : decode cX8_doDelay 125 = .ok (.bipush 6, 2) := by decide +kernel
theorem dX8_doDelay_127 : decode cX8_doDelay 127 = .ok (.invokestatic 44, 3) := by decide +kernel
theorem dX8_doDelay_130 : decode cX8_doDelay 130 = .ok (.iconst 2, 1) := by decide +kernel
theorem dX8_doDelay_131 : decode cX8_doDelay 131 = .ok (.iastore, 1) := by decide +kernel
theorem dX8_doDelay_132 : decode cX8_doDelay 132 = .ok (.iinc 4 1, 3) := by decide +kernel
theorem dX8_doDelay_135 : decode cX8_doDelay 135 = .ok (.goto (-47), 3) := by decide +kernel
theorem dX8_doDelay_138 : decode cX8_doDelay 138 = .ok (.aload_n 0, 1) := by decide +kernel
theorem dX8_doDelay_139 : decode cX8_doDelay 139 = .ok (.getfield 7, 3) := by decide +kernel
theorem dX8_doDelay_142 : decode cX8_doDelay 142 = .ok (.iconst 0, 1) := by decide +kernel
theorem dX8_doDelay_143 : decode cX8_doDelay 143 = .ok (.iload_n 1, 1) := by decide +kernel
theorem dX8_doDelay_144 : decode cX8_doDelay 144 = .ok (.bipush 6, 2) := by decide +kernel
theorem dX8_doDelay_146 : decode cX8_doDelay 146 = .ok (.invokestatic 37, 3) := by decide +kernel
theorem dX8_doDelay_149 : decode cX8_doDelay 149 = .ok (.aload_n 0, 1) := by decide +kernel
theorem dX8_doDelay_150 : decode cX8_doDelay 150 = .ok (.getfield 72, 3) := by decide +kernel
theorem dX8_doDelay_153 : decode cX8_doDelay 153 = .ok (.iastore, 1) := by decide +kernel
theorem dX8_doDelay_154 : decode cX8_doDelay 154 = .ok (.aload_n 0, 1) := by decide +kernel
theorem dX8_doDelay_155 : decode cX8_doDelay 155 = .ok (.getfield 7, 3) := by decide +kernel
theorem dX8_doDelay_158 : decode cX8_doDelay 158 = .ok (.sipush 188, 3) := by decide +kernel
theorem dX8_doDelay_161 : decode cX8_doDelay 161 = .ok (.dup2, 1) := by decide +kernel
theorem dX8_doDelay_162 : decode cX8_doDelay 162 = .ok (.iaload, 1) := by decide +kernel
theorem dX8_doDelay_163 : decode cX8_doDelay 163 = .ok (.iload_n 3, 1) := by decide +kernel
theorem dX8_doDelay_164 : decode cX8_doDelay 164 = .ok (.iadd, 1) := by decide +kernel
theorem dX8_doDelay_165 : decode cX8_doDelay 165 = .ok (.iastore, 1) := by decide +kernel
theorem dX8_doDelay_166 : decode cX8_doDelay 166 = .ok (.iload_n 3, 1) := by decide +kernel
theorem dX8_doDelay_167 : decode cX8_doDelay 167 = .ok (.ireturn, 1) := by decide +kernel
theorem dX8_port_0 : decode cX8_port 0 = .ok (.iload_n 1, 1) := by decide +kernel
theorem dX8_port_1 : decode cX8_port 1 = .ok (.iconst 0, 1) := by decide +kernel
theorem dX8_port_2 : decode cX8_port 2 = .ok (.bipush 7, 2) := by decide +kernel
theorem dX8_port_4 : decode cX8_port 4 = .ok (.invokestatic 29, 3) := by decide +kernel
theorem dX8_port_7 : decode cX8_port 7 = .ok (.ifCond .eq 23, 3) := by decide +kernel
theorem dX8_port_10 : decode cX8_port 10 = .ok (.iload_n 2, 1) := by decide +kernel
theorem dX8_port_11 : decode cX8_port 11 = .ok (.iconst 0, 1) := by decide +kernel
theorem dX8_port_12 : decode cX8_port 12 = .ok (.bipush 99, 2) := by decide +kernel
theorem dX8_port_14 : decode cX8_port 14 = .ok (.invokestatic 29, 3) := by decide +kernel
theorem dX8_port_17 : decode cX8_port 17 = .ok (.ifCond .eq 13, 3) := by decide +kernel
theorem dX8_port_20 : decode cX8_port 20 = .ok (.iload_n 3, 1) := by decide +kernel
theorem dX8_port_21 : decode cX8_port 21 = .ok (.iconst 0, 1) := by decide +kernel
theorem dX8_port_22 : decode cX8_port 22 = .ok (.bipush 99, 2) := by decide +kernel
theorem dX8_port_24 : decode cX8_port 24 = .ok (.invokestatic 29, 3) := by decide +kernel
theorem dX8_port_27 : decode cX8_port 27 = .ok (.ifCond .ne 6, 3) := by decide +kernel
theorem dX8_port_30 : decode cX8_port 30 = .ok (.ldc 24, 2) := by decide +kernel
theorem dX8_port_32 : decode cX8_port 32 = .ok (.ireturn, 1) := by decide +kernel
theorem dX8_port_33 : decode cX8_port 33 = .ok (.aload_n 0, 1) := by decide +kernel
theorem dX8_port_34 : decode cX8_port 34 = .ok (.iconst 1, 1) := by decide +kernel
theorem dX8_port_35 : decode cX8_port 35 = .ok (.invokevirtual 105, 3) := by decide +kernel
theorem dX8_port_38 : decode cX8_port 38 = .ok (.ifCond .le 6, 3) := by decide +kernel
theorem dX8_port_41 : decode cX8_port 41 = .ok (.ldc 101, 2) := by decide +kernel
theorem dX8_port_43 : decode cX8_port 43 = .ok (.ireturn, 1) := by decide +kernel
theorem dX8_port_44 : decode cX8_port 44 = .ok (.aload_n 0, 1) := by decide +kernel
theorem dX8_port_45 : decode cX8_port 45 = .ok (.invokevirtual 109, 3) := by decide +kernel
theorem dX8_port_48 : decode cX8_port 48 = .ok (.bipush 100, 2) := by decide +kernel
theorem dX8_port_50 : decode cX8_port 50 = .ok (.aload_n 0, 1) := by decide +kernel
theorem dX8_port_51 : decode cX8_port 51 = .ok (.getfield 7, 3) := by decide +kernel
theorem dX8_port_54 : decode cX8_port 54 = .ok (.iconst 0, 1) := by decide +kernel
theorem dX8_port_55 : decode cX8_port 55 = .ok (.iconst 2, 1) := by decide +kernel
theorem dX8_port_56 : decode cX8_port 56 = .ok (.iload_n 1, 1) := by decide +kernel
theorem dX8_port_57 : decode cX8_port 57 = .ok (.imul, 1) := by decide +kernel
theorem dX8_port_58 : decode cX8_port 58 = .ok (.iadd, 1) := by decide +kernel
theorem dX8_port_59 : decode cX8_port 59 = .ok (.iaload, 1) := by decide +kernel
theorem dX8_port_60 : decode cX8_port 60 = .ok (.imul, 1) := by decide +kernel
theorem dX8_port_61 : decode cX8_port 61 = .ok (.aload_n 0, 1) := by decide +kernel
theorem dX8_port_62 : decode cX8_port 62 = .ok (.getfield 7, 3) := by decide +kernel
theorem dX8_port_65 : decode cX8_port 65 = .ok (.iconst 0, 1) := by decide +kernel
theorem dX8_port_66 : decode cX8_port 66 = .ok (.iconst 2, 1) := by decide +kernel
theorem dX8_port_67 : decode cX8_port 67 = .ok (.iload_n 1, 1) := by decide +kernel
theorem dX8_port_68 : decode cX8_port 68 = .ok (.imul, 1) := by decide +kernel
theorem dX8_port_69 : decode cX8_port 69 = .ok (.iadd, 1) := by decide +kernel
theorem dX8_port_70 : decode cX8_port 70 = .ok (.iconst 1, 1) := by decide +kernel
theorem dX8_port_71 : decode cX8_port 71 = .ok (.iadd, 1) := by decide +kernel
theorem dX8_port_72 : decode cX8_port 72 = .ok (.iaload, 1) := by decide +kernel
theorem dX8_port_73 : decode cX8_port 73 = .ok (.iadd, 1) := by decide +kernel
theorem dX8_port_74 : decode cX8_port 74 = .ok (.istore 4, 2) := by decide +kernel
theorem dX8_port_76 : decode cX8_port 76 = .ok (.aload_n 0, 1) := by decide +kernel
theorem dX8_port_77 : decode cX8_port 77 = .ok (.getfield 7, 3) := by decide +kernel
theorem dX8_port_80 : decode cX8_port 80 = .ok (.iconst 0, 1) := by decide +kernel
theorem dX8_port_81 : decode cX8_port 81 = .ok (.iconst 2, 1) := by decide +kernel
theorem dX8_port_82 : decode cX8_port 82 = .ok (.iload_n 1, 1) := by decide +kernel
theorem dX8_port_83 : decode cX8_port 83 = .ok (.imul, 1) := by decide +kernel
theorem dX8_port_84 : decode cX8_port 84 = .ok (.iadd, 1) := by decide +kernel
theorem dX8_port_85 : decode cX8_port 85 = .ok (.iload_n 2, 1) := by decide +kernel
theorem dX8_port_86 : decode cX8_port 86 = .ok (.iastore, 1) := by decide +kernel
theorem dX8_port_87 : decode cX8_port 87 = .ok (.aload_n 0, 1) := by decide +kernel
theorem dX8_port_88 : decode cX8_port 88 = .ok (.getfield 7, 3) := by decide +kernel
theorem dX8_port_91 : decode cX8_port 91 = .ok (.iconst 0, 1) := by decide +kernel
theorem dX8_port_92 : decode cX8_port 92 = .ok (.iconst 2, 1) := by decide +kernel
theorem dX8_port_93 : decode cX8_port 93 = .ok (.iload_n 1, 1) := by decide +kernel
theorem dX8_port_94 : decode cX8_port 94 = .ok (.imul, 1) := by decide +kernel
theorem dX8_port_95 : decode cX8_port 95 = .ok (.iadd, 1) := by decide +kernel
theorem dX8_port_96 : decode cX8_port 96 = .ok (.iconst 1, 1) := by decide +kernel
theorem dX8_port_97 : decode cX8_port 97 = .ok (.iadd, 1) := by decide +kernel
theorem dX8_port_98 : decode cX8_port 98 = .ok (.iload_n 3, 1) := by decide +kernel
theorem dX8_port_99 : decode cX8_port 99 = .ok (.iastore, 1) := by decide +kernel
theorem dX8_port_100 : decode cX8_port 100 = .ok (.aload_n 0, 1) := by decide +kernel
theorem dX8_port_101 : decode cX8_port 101 = .ok (.iload 4, 2) := by decide +kernel
theorem dX8_port_103 : decode cX8_port 103 = .ok (.invokevirtual 112, 3) := by decide +kernel
theorem dX8_port_106 : decode cX8_port 106 = .ok (.ireturn, 1) := by decide +kernel
theorem dX8_ship_0 : decode cX8_ship 0 = .ok (.aload_n 0, 1) := by decide +kernel
theorem dX8_ship_1 : decode cX8_ship 1 = .ok (.invokevirtual 109, 3) := by decide +kernel
theorem dX8_ship_4 : decode cX8_ship 4 = .ok (.aload_n 0, 1) := by decide +kernel
theorem dX8_ship_5 : decode cX8_ship 5 = .ok (.aload_n 0, 1) := by decide +kernel
theorem dX8_ship_6 : decode cX8_ship 6 = .ok (.iload_n 1, 1) := by decide +kernel
theorem dX8_ship_7 : decode cX8_ship 7 = .ok (.iload_n 2, 1) := by decide +kernel
theorem dX8_ship_8 : decode cX8_ship 8 = .ok (.iload_n 3, 1) := by decide +kernel
theorem dX8_ship_9 : decode cX8_ship 9 = .ok (.iload 4, 2) := by decide +kernel
theorem dX8_ship_11 : decode cX8_ship 11 = .ok (.iload 5, 2) := by decide +kernel
theorem dX8_ship_13 : decode cX8_ship 13 = .ok (.invokevirtual 115, 3) := by decide +kernel
theorem dX8_ship_16 : decode cX8_ship 16 = .ok (.invokevirtual 112, 3) := by decide +kernel
theorem dX8_ship_19 : decode cX8_ship 19 = .ok (.ireturn, 1) := by decide +kernel
theorem dX8_cargo_0 : decode cX8_cargo 0 = .ok (.aload_n 0, 1) := by decide +kernel
theorem dX8_cargo_1 : decode cX8_cargo 1 = .ok (.invokevirtual 109, 3) := by decide +kernel
theorem dX8_cargo_4 : decode cX8_cargo 4 = .ok (.aload_n 0, 1) := by decide +kernel
theorem dX8_cargo_5 : decode cX8_cargo 5 = .ok (.aload_n 0, 1) := by decide +kernel
theorem dX8_cargo_6 : decode cX8_cargo 6 = .ok (.iload_n 1, 1) := by decide +kernel
theorem dX8_cargo_7 : decode cX8_cargo 7 = .ok (.iload_n 2, 1) := by decide +kernel
theorem dX8_cargo_8 : decode cX8_cargo 8 = .ok (.iload_n 3, 1) := by decide +kernel
theorem dX8_cargo_9 : decode cX8_cargo 9 = .ok (.iload 4, 2) := by decide +kernel
theorem dX8_cargo_11 : decode cX8_cargo 11 = .ok (.iload 5, 2) := by decide +kernel
theorem dX8_cargo_13 : decode cX8_cargo 13 = .ok (.iload 6, 2) := by decide +kernel
theorem dX8_cargo_15 : decode cX8_cargo 15 = .ok (.invokevirtual 119, 3) := by decide +kernel
theorem dX8_cargo_18 : decode cX8_cargo 18 = .ok (.invokevirtual 112, 3) := by decide +kernel
theorem dX8_cargo_21 : decode cX8_cargo 21 = .ok (.ireturn, 1) := by decide +kernel
theorem dX8_fix_0 : decode cX8_fix 0 = .ok (.aload_n 0, 1) := by decide +kernel
theorem dX8_fix_1 : decode cX8_fix 1 = .ok (.invokevirtual 109, 3) := by decide +kernel
theorem dX8_fix_4 : decode cX8_fix 4 = .ok (.aload_n 0, 1) := by decide +kernel
theorem dX8_fix_5 : decode cX8_fix 5 = .ok (.aload_n 0, 1) := by decide +kernel
theorem dX8_fix_6 : decode cX8_fix 6 = .ok (.iload_n 1, 1) := by decide +kernel
theorem dX8_fix_7 : decode cX8_fix 7 = .ok (.iload_n 2, 1) := by decide +kernel
theorem dX8_fix_8 : decode cX8_fix 8 = .ok (.invokevirtual 123, 3) := by decide +kernel
theorem dX8_fix_11 : decode cX8_fix 11 = .ok (.invokevirtual 112, 3) := by decide +kernel
theorem dX8_fix_14 : decode cX8_fix 14 = .ok (.ireturn, 1) := by decide +kernel
theorem dX8_delay_0 : decode cX8_delay 0 = .ok (.aload_n 0, 1) := by decide +kernel
theorem dX8_delay_1 : decode cX8_delay 1 = .ok (.invokevirtual 109, 3) := by decide +kernel
theorem dX8_delay_4 : decode cX8_delay 4 = .ok (.aload_n 0, 1) := by decide +kernel
theorem dX8_delay_5 : decode cX8_delay 5 = .ok (.aload_n 0, 1) := by decide +kernel
theorem dX8_delay_6 : decode cX8_delay 6 = .ok (.iload_n 1, 1) := by decide +kernel
theorem dX8_delay_7 : decode cX8_delay 7 = .ok (.iload_n 2, 1) := by decide +kernel
theorem dX8_delay_8 : decode cX8_delay 8 = .ok (.invokevirtual 126, 3) := by decide +kernel
theorem dX8_delay_11 : decode cX8_delay 11 = .ok (.invokevirtual 112, 3) := by decide +kernel
theorem dX8_delay_14 : decode cX8_delay 14 = .ok (.ireturn, 1) := by decide +kernel
theorem dX8_callOff_0 : decode cX8_callOff 0 = .ok (.aload_n 0, 1) := by decide +kernel
theorem dX8_callOff_1 : decode cX8_callOff 1 = .ok (.iload_n 1, 1) := by decide +kernel
theorem dX8_callOff_2 : decode cX8_callOff 2 = .ok (.invokevirtual 91, 3) := by decide +kernel
theorem dX8_callOff_5 : decode cX8_callOff 5 = .ok (.ifCond .ne 6, 3) := by decide +kernel
theorem dX8_callOff_8 : decode cX8_callOff 8 = .ok (.ldc 24, 2) := by decide +kernel
theorem dX8_callOff_10 : decode cX8_callOff 10 = .ok (.ireturn, 1) := by decide +kernel
theorem dX8_callOff_11 : decode cX8_callOff 11 = .ok (.iconst 0, 1) := by decide +kernel
theorem dX8_callOff_12 : decode cX8_callOff 12 = .ok (.iload_n 1, 1) := by decide +kernel
theorem dX8_callOff_13 : decode cX8_callOff 13 = .ok (.bipush 6, 2) := by decide +kernel
theorem dX8_callOff_15 : decode cX8_callOff 15 = .ok (.invokestatic 37, 3) := by decide +kernel
theorem dX8_callOff_18 : decode cX8_callOff 18 = .ok (.istore_n 2, 1) := by decide +kernel
theorem dX8_callOff_19 : decode cX8_callOff 19 = .ok (.aload_n 0, 1) := by decide +kernel
theorem dX8_callOff_20 : decode cX8_callOff 20 = .ok (.getfield 7, 3) := by decide +kernel
theorem dX8_callOff_23 : decode cX8_callOff 23 = .ok (.iload_n 2, 1) := by decide +kernel
theorem dX8_callOff_24 : decode cX8_callOff 24 = .ok (.iaload, 1) := by decide +kernel
theorem dX8_callOff_25 : decode cX8_callOff 25 = .ok (.ifCond .ne 6, 3) := by decide +kernel
theorem dX8_callOff_28 : decode cX8_callOff 28 = .ok (.ldc 101, 2) := by decide +kernel
theorem dX8_callOff_30 : decode cX8_callOff 30 = .ok (.ireturn, 1) := by decide +kernel
theorem dX8_callOff_31 : decode cX8_callOff 31 = .ok (.aload_n 0, 1) := by decide +kernel
theorem dX8_callOff_32 : decode cX8_callOff 32 = .ok (.invokevirtual 109, 3) := by decide +kernel
theorem dX8_callOff_35 : decode cX8_callOff 35 = .ok (.aload_n 0, 1) := by decide +kernel
theorem dX8_callOff_36 : decode cX8_callOff 36 = .ok (.getfield 7, 3) := by decide +kernel
theorem dX8_callOff_39 : decode cX8_callOff 39 = .ok (.iload_n 2, 1) := by decide +kernel
theorem dX8_callOff_40 : decode cX8_callOff 40 = .ok (.dup2, 1) := by decide +kernel
theorem dX8_callOff_41 : decode cX8_callOff 41 = .ok (.iaload, 1) := by decide +kernel
theorem dX8_callOff_42 : decode cX8_callOff 42 = .ok (.iconst 1, 1) := by decide +kernel
theorem dX8_callOff_43 : decode cX8_callOff 43 = .ok (.isub, 1) := by decide +kernel
theorem dX8_callOff_44 : decode cX8_callOff 44 = .ok (.iastore, 1) := by decide +kernel
theorem dX8_callOff_45 : decode cX8_callOff 45 = .ok (.aload_n 0, 1) := by decide +kernel
theorem dX8_callOff_46 : decode cX8_callOff 46 = .ok (.getfield 7, 3) := by decide +kernel
theorem dX8_callOff_49 : decode cX8_callOff 49 = .ok (.iconst 0, 1) := by decide +kernel
theorem dX8_callOff_50 : decode cX8_callOff 50 = .ok (.iload_n 1, 1) := by decide +kernel
theorem dX8_callOff_51 : decode cX8_callOff 51 = .ok (.bipush 7, 2) := by decide +kernel
theorem dX8_callOff_53 : decode cX8_callOff 53 = .ok (.aload_n 0, 1) := by decide +kernel
theorem dX8_callOff_54 : decode cX8_callOff 54 = .ok (.getfield 7, 3) := by decide +kernel
theorem dX8_callOff_57 : decode cX8_callOff 57 = .ok (.iload_n 2, 1) := by decide +kernel
theorem dX8_callOff_58 : decode cX8_callOff 58 = .ok (.iaload, 1) := by decide +kernel
theorem dX8_callOff_59 : decode cX8_callOff 59 = .ok (.iadd, 1) := by decide +kernel
theorem dX8_callOff_60 : decode cX8_callOff 60 = .ok (.invokestatic 37, 3) := by decide +kernel
theorem dX8_callOff_63 : decode cX8_callOff 63 = .ok (.iaload, 1) := by decide +kernel
theorem dX8_callOff_64 : decode cX8_callOff 64 = .ok (.istore_n 3, 1) := by decide +kernel
theorem dX8_callOff_65 : decode cX8_callOff 65 = .ok (.aload_n 0, 1) := by decide +kernel
theorem dX8_callOff_66 : decode cX8_callOff 66 = .ok (.getfield 7, 3) := by decide +kernel
theorem dX8_callOff_69 : decode cX8_callOff 69 = .ok (.iconst 0, 1) := by decide +kernel
theorem dX8_callOff_70 : decode cX8_callOff 70 = .ok (.iload_n 3, 1) := by decide +kernel
theorem dX8_callOff_71 : decode cX8_callOff 71 = .ok (.iconst 0, 1) := by decide +kernel
theorem dX8_callOff_72 : decode cX8_callOff 72 = .ok (.invokestatic 44, 3) := by decide +kernel
theorem dX8_callOff_75 : decode cX8_callOff 75 = .ok (.iaload, 1) := by decide +kernel
theorem dX8_callOff_76 : decode cX8_callOff 76 = .ok (.aload_n 0, 1) := by decide +kernel
theorem dX8_callOff_77 : decode cX8_callOff 77 = .ok (.getfield 7, 3) := by decide +kernel
theorem dX8_callOff_80 : decode cX8_callOff 80 = .ok (.iconst 0, 1) := by decide +kernel
theorem dX8_callOff_81 : decode cX8_callOff 81 = .ok (.iload_n 3, 1) := by decide +kernel
theorem dX8_callOff_82 : decode cX8_callOff 82 = .ok (.iconst 5, 1) := by decide +kernel
theorem dX8_callOff_83 : decode cX8_callOff 83 = .ok (.invokestatic 44, 3) := by decide +kernel
theorem dX8_callOff_86 : decode cX8_callOff 86 = .ok (.iaload, 1) := by decide +kernel
theorem dX8_callOff_87 : decode cX8_callOff 87 = .ok (.imul, 1) := by decide +kernel
theorem dX8_callOff_88 : decode cX8_callOff 88 = .ok (.bipush 9, 2) := by decide +kernel
theorem dX8_callOff_90 : decode cX8_callOff 90 = .ok (.iadd, 1) := by decide +kernel
theorem dX8_callOff_91 : decode cX8_callOff 91 = .ok (.bipush 10, 2) := by decide +kernel
theorem dX8_callOff_93 : decode cX8_callOff 93 = .ok (.idiv, 1) := by decide +kernel
theorem dX8_callOff_94 : decode cX8_callOff 94 = .ok (.istore 4, 2) := by decide +kernel
theorem dX8_callOff_96 : decode cX8_callOff 96 = .ok (.aload_n 0, 1) := by decide +kernel
theorem dX8_callOff_97 : decode cX8_callOff 97 = .ok (.getfield 7, 3) := by decide +kernel
theorem dX8_callOff_100 : decode cX8_callOff 100 = .ok (.iconst 0, 1) := by decide +kernel
theorem dX8_callOff_101 : decode cX8_callOff 101 = .ok (.iload_n 3, 1) := by decide +kernel
theorem dX8_callOff_102 : decode cX8_callOff 102 = .ok (.bipush 6, 2) := by decide +kernel
theorem dX8_callOff_104 : decode cX8_callOff 104 = .ok (.invokestatic 44, 3) := by decide +kernel
theorem dX8_callOff_107 : decode cX8_callOff 107 = .ok (.iconst 0, 1) := by decide +kernel
theorem dX8_callOff_108 : decode cX8_callOff 108 = .ok (.iastore, 1) := by decide +kernel
theorem dX8_callOff_109 : decode cX8_callOff 109 = .ok (.aload_n 0, 1) := by decide +kernel
theorem dX8_callOff_110 : decode cX8_callOff 110 = .ok (.getfield 7, 3) := by decide +kernel
theorem dX8_callOff_113 : decode cX8_callOff 113 = .ok (.iconst 0, 1) := by decide +kernel
theorem dX8_callOff_114 : decode cX8_callOff 114 = .ok (.iload_n 1, 1) := by decide +kernel
theorem dX8_callOff_115 : decode cX8_callOff 115 = .ok (.iconst 5, 1) := by decide +kernel
theorem dX8_callOff_116 : decode cX8_callOff 116 = .ok (.invokestatic 37, 3) := by decide +kernel
theorem dX8_callOff_119 : decode cX8_callOff 119 = .ok (.dup2, 1) := by decide +kernel
theorem dX8_callOff_120 : decode cX8_callOff 120 = .ok (.iaload, 1) := by decide +kernel
theorem dX8_callOff_121 : decode cX8_callOff 121 = .ok (.iload 4, 2) := by decide +kernel
theorem dX8_callOff_123 : decode cX8_callOff 123 = .ok (.isub, 1) := by decide +kernel
theorem dX8_callOff_124 : decode cX8_callOff 124 = .ok (.iastore, 1) := by decide +kernel
theorem dX8_callOff_125 : decode cX8_callOff 125 = .ok (.aload_n 0, 1) := by decide +kernel
theorem dX8_callOff_126 : decode cX8_callOff 126 = .ok (.getfield 7, 3) := by decide +kernel
theorem dX8_callOff_129 : decode cX8_callOff 129 = .ok (.sipush 189, 3) := by decide +kernel
theorem dX8_callOff_132 : decode cX8_callOff 132 = .ok (.dup2, 1) := by decide +kernel
theorem dX8_callOff_133 : decode cX8_callOff 133 = .ok (.iaload, 1) := by decide +kernel
theorem dX8_callOff_134 : decode cX8_callOff 134 = .ok (.iconst 1, 1) := by decide +kernel
theorem dX8_callOff_135 : decode cX8_callOff 135 = .ok (.iadd, 1) := by decide +kernel
theorem dX8_callOff_136 : decode cX8_callOff 136 = .ok (.iastore, 1) := by decide +kernel
theorem dX8_callOff_137 : decode cX8_callOff 137 = .ok (.aload_n 0, 1) := by decide +kernel
theorem dX8_callOff_138 : decode cX8_callOff 138 = .ok (.iload 4, 2) := by decide +kernel
theorem dX8_callOff_140 : decode cX8_callOff 140 = .ok (.invokevirtual 112, 3) := by decide +kernel
theorem dX8_callOff_143 : decode cX8_callOff 143 = .ok (.ireturn, 1) := by decide +kernel
theorem dX8_settle_0 : decode cX8_settle 0 = .ok (.aload_n 0, 1) := by decide +kernel
theorem dX8_settle_1 : decode cX8_settle 1 = .ok (.iload_n 1, 1) := by decide +kernel
theorem dX8_settle_2 : decode cX8_settle 2 = .ok (.invokevirtual 91, 3) := by decide +kernel
theorem dX8_settle_5 : decode cX8_settle 5 = .ok (.ifCond .ne 6, 3) := by decide +kernel
theorem dX8_settle_8 : decode cX8_settle 8 = .ok (.ldc 24, 2) := by decide +kernel
theorem dX8_settle_10 : decode cX8_settle 10 = .ok (.ireturn, 1) := by decide +kernel
theorem dX8_settle_11 : decode cX8_settle 11 = .ok (.aload_n 0, 1) := by decide +kernel
theorem dX8_settle_12 : decode cX8_settle 12 = .ok (.getfield 7, 3) := by decide +kernel
theorem dX8_settle_15 : decode cX8_settle 15 = .ok (.iconst 0, 1) := by decide +kernel
theorem dX8_settle_16 : decode cX8_settle 16 = .ok (.iload_n 1, 1) := by decide +kernel
theorem dX8_settle_17 : decode cX8_settle 17 = .ok (.bipush 6, 2) := by decide +kernel
theorem dX8_settle_19 : decode cX8_settle 19 = .ok (.invokestatic 37, 3) := by decide +kernel
theorem dX8_settle_22 : decode cX8_settle 22 = .ok (.iaload, 1) := by decide +kernel
theorem dX8_settle_23 : decode cX8_settle 23 = .ok (.istore_n 2, 1) := by decide +kernel
theorem dX8_settle_24 : decode cX8_settle 24 = .ok (.iload_n 2, 1) := by decide +kernel
theorem dX8_settle_25 : decode cX8_settle 25 = .ok (.ifCond .ne 6, 3) := by decide +kernel
theorem dX8_settle_28 : decode cX8_settle 28 = .ok (.ldc 101, 2) := by decide +kernel
theorem dX8_settle_30 : decode cX8_settle 30 = .ok (.ireturn, 1) := by decide +kernel
theorem dX8_settle_31 : decode cX8_settle 31 = .ok (.aload_n 0, 1) := by decide +kernel
theorem dX8_settle_32 : decode cX8_settle 32 = .ok (.invokevirtual 109, 3) := by decide +kernel
theorem dX8_settle_35 : decode cX8_settle 35 = .ok (.aload_n 0, 1) := by decide +kernel
theorem dX8_settle_36 : decode cX8_settle 36 = .ok (.iconst 0, 1) := by decide +kernel
theorem dX8_settle_37 : decode cX8_settle 37 = .ok (.iload_n 1, 1) := by decide +kernel
theorem dX8_settle_38 : decode cX8_settle 38 = .ok (.invokevirtual 87, 3) := by decide +kernel
theorem dX8_settle_41 : decode cX8_settle 41 = .ok (.iconst 0, 1) := by decide +kernel
theorem dX8_settle_42 : decode cX8_settle 42 = .ok (.istore_n 3, 1) := by decide +kernel
theorem dX8_settle_43 : decode cX8_settle 43 = .ok (.iload_n 3, 1) := by decide +kernel
theorem dX8_settle_44 : decode cX8_settle 44 = .ok (.iload_n 2, 1) := by decide +kernel
theorem dX8_settle_45 : decode cX8_settle 45 = .ok (.if_icmp .ge 35, 3) := by decide +kernel
theorem dX8_settle_48 : decode cX8_settle 48 = .ok (.aload_n 0, 1) := by decide +kernel
theorem dX8_settle_49 : decode cX8_settle 49 = .ok (.getfield 7, 3) := by decide +kernel
theorem dX8_settle_52 : decode cX8_settle 52 = .ok (.iconst 0, 1) := by decide +kernel
theorem dX8_settle_53 : decode cX8_settle 53 = .ok (.aload_n 0, 1) := by decide +kernel
theorem dX8_settle_54 : decode cX8_settle 54 = .ok (.getfield 7, 3) := by decide +kernel
theorem dX8_settle_57 : decode cX8_settle 57 = .ok (.iconst 0, 1) := by decide +kernel
theorem dX8_settle_58 : decode cX8_settle 58 = .ok (.iload_n 1, 1) := by decide +kernel
theorem dX8_settle_59 : decode cX8_settle 59 = .ok (.bipush 7, 2) := by decide +kernel
theorem dX8_settle_61 : decode cX8_settle 61 = .ok (.iload_n 3, 1) := by decide +kernel
theorem dX8_settle_62 : decode cX8_settle 62 = .ok (.iadd, 1) := by decide +kernel
theorem dX8_settle_63 : decode cX8_settle 63 = .ok (.invokestatic 37, 3) := by decide +kernel
theorem dX8_settle_66 : decode cX8_settle 66 = .ok (.iaload, 1) := by decide +kernel
theorem dX8_settle_67 : decode cX8_settle 67 = .ok (.bipush 6, 2) := by decide +kernel
theorem dX8_settle_69 : decode cX8_settle 69 = .ok (.invokestatic 44, 3) := by decide +kernel
theorem dX8_settle_72 : decode cX8_settle 72 = .ok (.iconst 2, 1) := by decide +kernel
theorem dX8_settle_73 : decode cX8_settle 73 = .ok (.iastore, 1) := by decide +kernel
theorem dX8_settle_74 : decode cX8_settle 74 = .ok (.iinc 3 1, 3) := by decide +kernel
theorem dX8_settle_77 : decode cX8_settle 77 = .ok (.goto (-34), 3) := by decide +kernel
theorem dX8_settle_80 : decode cX8_settle 80 = .ok (.aload_n 0, 1) := by decide +kernel
theorem dX8_settle_81 : decode cX8_settle 81 = .ok (.getfield 7, 3) := by decide +kernel
theorem dX8_settle_84 : decode cX8_settle 84 = .ok (.iconst 0, 1) := by decide +kernel
theorem dX8_settle_85 : decode cX8_settle 85 = .ok (.iload_n 1, 1) := by decide +kernel
theorem dX8_settle_86 : decode cX8_settle 86 = .ok (.iconst 5, 1) := by decide +kernel
theorem dX8_settle_87 : decode cX8_settle 87 = .ok (.invokestatic 37, 3) := by decide +kernel
theorem dX8_settle_90 : decode cX8_settle 90 = .ok (.dup2, 1) := by decide +kernel
theorem dX8_settle_91 : decode cX8_settle 91 = .ok (.iaload, 1) := by decide +kernel
theorem dX8_settle_92 : decode cX8_settle 92 = .ok (.aload_n 0, 1) := by decide +kernel
theorem dX8_settle_93 : decode cX8_settle 93 = .ok (.getfield 69, 3) := by decide +kernel
theorem dX8_settle_96 : decode cX8_settle 96 = .ok (.iadd, 1) := by decide +kernel
theorem dX8_settle_97 : decode cX8_settle 97 = .ok (.iastore, 1) := by decide +kernel
theorem dX8_settle_98 : decode cX8_settle 98 = .ok (.aload_n 0, 1) := by decide +kernel
theorem dX8_settle_99 : decode cX8_settle 99 = .ok (.getfield 7, 3) := by decide +kernel
theorem dX8_settle_102 : decode cX8_settle 102 = .ok (.iconst 0, 1) := by decide +kernel
theorem dX8_settle_103 : decode cX8_settle 103 = .ok (.iload_n 1, 1) := by decide +kernel
theorem dX8_settle_104 : decode cX8_settle 104 = .ok (.iconst 3, 1) := by decide +kernel
theorem dX8_settle_105 : decode cX8_settle 105 = .ok (.invokestatic 37, 3) := by decide +kernel
theorem dX8_settle_108 : decode cX8_settle 108 = .ok (.aload_n 0, 1) := by decide +kernel
theorem dX8_settle_109 : decode cX8_settle 109 = .ok (.getfield 63, 3) := by decide +kernel
theorem dX8_settle_112 : decode cX8_settle 112 = .ok (.iastore, 1) := by decide +kernel
theorem dX8_settle_113 : decode cX8_settle 113 = .ok (.aload_n 0, 1) := by decide +kernel
theorem dX8_settle_114 : decode cX8_settle 114 = .ok (.getfield 7, 3) := by decide +kernel
theorem dX8_settle_117 : decode cX8_settle 117 = .ok (.iconst 0, 1) := by decide +kernel
theorem dX8_settle_118 : decode cX8_settle 118 = .ok (.iload_n 1, 1) := by decide +kernel
theorem dX8_settle_119 : decode cX8_settle 119 = .ok (.iconst 4, 1) := by decide +kernel
theorem dX8_settle_120 : decode cX8_settle 120 = .ok (.invokestatic 37, 3) := by decide +kernel
theorem dX8_settle_123 : decode cX8_settle 123 = .ok (.aload_n 0, 1) := by decide +kernel
theorem dX8_settle_124 : decode cX8_settle 124 = .ok (.getfield 66, 3) := by decide +kernel
theorem dX8_settle_127 : decode cX8_settle 127 = .ok (.iastore, 1) := by decide +kernel
theorem dX8_settle_128 : decode cX8_settle 128 = .ok (.aload_n 0, 1) := by decide +kernel
theorem dX8_settle_129 : decode cX8_settle 129 = .ok (.getfield 7, 3) := by decide +kernel
theorem dX8_settle_132 : decode cX8_settle 132 = .ok (.iconst 0, 1) := by decide +kernel
theorem dX8_settle_133 : decode cX8_settle 133 = .ok (.iload_n 1, 1) := by decide +kernel
theorem dX8_settle_134 : decode cX8_settle 134 = .ok (.bipush 6, 2) := by decide +kernel
theorem dX8_settle_136 : decode cX8_settle 136 = .ok (.invokestatic 37, 3) := by decide +kernel
theorem dX8_settle_139 : decode cX8_settle 139 = .ok (.iconst 0, 1) := by decide +kernel
theorem dX8_settle_140 : decode cX8_settle 140 = .ok (.iastore, 1) := by decide +kernel
theorem dX8_settle_141 : decode cX8_settle 141 = .ok (.aload_n 0, 1) := by decide +kernel
theorem dX8_settle_142 : decode cX8_settle 142 = .ok (.aload_n 0, 1) := by decide +kernel
theorem dX8_settle_143 : decode cX8_settle 143 = .ok (.getfield 69, 3) := by decide +kernel
theorem dX8_settle_146 : decode cX8_settle 146 = .ok (.ldc 129, 2) := by decide +kernel
theorem dX8_settle_148 : decode cX8_settle 148 = .ok (.iadd, 1) := by decide +kernel
theorem dX8_settle_149 : decode cX8_settle 149 = .ok (.invokevirtual 112, 3) := by decide +kernel
theorem dX8_settle_152 : decode cX8_settle 152 = .ok (.ireturn, 1) := by decide +kernel
theorem dX8_shipOf_0 : decode cX8_shipOf 0 = .ok (.aload_n 0, 1) := by decide +kernel
theorem dX8_shipOf_1 : decode cX8_shipOf 1 = .ok (.iload_n 1, 1) := by decide +kernel
theorem dX8_shipOf_2 : decode cX8_shipOf 2 = .ok (.invokevirtual 91, 3) := by decide +kernel
theorem dX8_shipOf_5 : decode cX8_shipOf 5 = .ok (.ifCond .eq 13, 3) := by decide +kernel
theorem dX8_shipOf_8 : decode cX8_shipOf 8 = .ok (.iload_n 2, 1) := by decide +kernel
theorem dX8_shipOf_9 : decode cX8_shipOf 9 = .ok (.iconst 0, 1) := by decide +kernel
theorem dX8_shipOf_10 : decode cX8_shipOf 10 = .ok (.bipush 9, 2) := by decide +kernel
theorem dX8_shipOf_12 : decode cX8_shipOf 12 = .ok (.invokestatic 29, 3) := by decide +kernel
theorem dX8_shipOf_15 : decode cX8_shipOf 15 = .ok (.ifCond .ne 6, 3) := by decide +kernel
theorem dX8_shipOf_18 : decode cX8_shipOf 18 = .ok (.ldc 24, 2) := by decide +kernel
theorem dX8_shipOf_20 : decode cX8_shipOf 20 = .ok (.ireturn, 1) := by decide +kernel
theorem dX8_shipOf_21 : decode cX8_shipOf 21 = .ok (.aload_n 0, 1) := by decide +kernel
theorem dX8_shipOf_22 : decode cX8_shipOf 22 = .ok (.iconst 0, 1) := by decide +kernel
theorem dX8_shipOf_23 : decode cX8_shipOf 23 = .ok (.iload_n 1, 1) := by decide +kernel
theorem dX8_shipOf_24 : decode cX8_shipOf 24 = .ok (.invokevirtual 87, 3) := by decide +kernel
theorem dX8_shipOf_27 : decode cX8_shipOf 27 = .ok (.iload_n 2, 1) := by decide +kernel
theorem dX8_shipOf_28 : decode cX8_shipOf 28 = .ok (.tableswitch 126 0 8 #[52, 52, 52, 64, 69, 74, 86, 98, 111], 52) := by decide +kernel
theorem dX8_shipOf_80 : decode cX8_shipOf 80 = .ok (.aload_n 0, 1) := by decide +kernel
theorem dX8_shipOf_81 : decode cX8_shipOf 81 = .ok (.getfield 7, 3) := by decide +kernel
theorem dX8_shipOf_84 : decode cX8_shipOf 84 = .ok (.iconst 0, 1) := by decide +kernel
theorem dX8_shipOf_85 : decode cX8_shipOf 85 = .ok (.iload_n 1, 1) := by decide +kernel
theorem dX8_shipOf_86 : decode cX8_shipOf 86 = .ok (.iload_n 2, 1) := by decide +kernel
theorem dX8_shipOf_87 : decode cX8_shipOf 87 = .ok (.invokestatic 37, 3) := by decide +kernel
theorem dX8_shipOf_90 : decode cX8_shipOf 90 = .ok (.iaload, 1) := by decide +kernel
theorem dX8_shipOf_91 : decode cX8_shipOf 91 = .ok (.ireturn, 1) := by decide +kernel
theorem dX8_shipOf_92 : decode cX8_shipOf 92 = .ok (.aload_n 0, 1) := by decide +kernel
theorem dX8_shipOf_93 : decode cX8_shipOf 93 = .ok (.getfield 63, 3) := by decide +kernel
theorem dX8_shipOf_96 : decode cX8_shipOf 96 = .ok (.ireturn, 1) := by decide +kernel
theorem dX8_shipOf_97 : decode cX8_shipOf 97 = .ok (.aload_n 0, 1) := by decide +kernel
theorem dX8_shipOf_98 : decode cX8_shipOf 98 = .ok (.getfield 66, 3) := by decide +kernel
theorem dX8_shipOf_101 : decode cX8_shipOf 101 = .ok (.ireturn, 1) := by decide +kernel
theorem dX8_shipOf_102 : decode cX8_shipOf 102 = .ok (.aload_n 0, 1) := by decide +kernel
theorem dX8_shipOf_103 : decode cX8_shipOf 103 = .ok (.getfield 7, 3) := by decide +kernel
theorem dX8_shipOf_106 : decode cX8_shipOf 106 = .ok (.iconst 0, 1) := by decide +kernel
theorem dX8_shipOf_107 : decode cX8_shipOf 107 = .ok (.iload_n 1, 1) := by decide +kernel
theorem dX8_shipOf_108 : decode cX8_shipOf 108 = .ok (.iconst 3, 1) := by decide +kernel
theorem dX8_shipOf_109 : decode cX8_shipOf 109 = .ok (.invokestatic 37, 3) := by decide +kernel
theorem dX8_shipOf_112 : decode cX8_shipOf 112 = .ok (.iaload, 1) := by decide +kernel
theorem dX8_shipOf_113 : decode cX8_shipOf 113 = .ok (.ireturn, 1) := by decide +kernel
theorem dX8_shipOf_114 : decode cX8_shipOf 114 = .ok (.aload_n 0, 1) := by decide +kernel
theorem dX8_shipOf_115 : decode cX8_shipOf 115 = .ok (.getfield 7, 3) := by decide +kernel
theorem dX8_shipOf_118 : decode cX8_shipOf 118 = .ok (.iconst 0, 1) := by decide +kernel
theorem dX8_shipOf_119 : decode cX8_shipOf 119 = .ok (.iload_n 1, 1) := by decide +kernel
theorem dX8_shipOf_120 : decode cX8_shipOf 120 = .ok (.iconst 4, 1) := by decide +kernel
theorem dX8_shipOf_121 : decode cX8_shipOf 121 = .ok (.invokestatic 37, 3) := by decide +kernel
theorem dX8_shipOf_124 : decode cX8_shipOf 124 = .ok (.iaload, 1) := by decide +kernel
theorem dX8_shipOf_125 : decode cX8_shipOf 125 = .ok (.ireturn, 1) := by decide +kernel
theorem dX8_shipOf_126 : decode cX8_shipOf 126 = .ok (.aload_n 0, 1) := by decide +kernel
theorem dX8_shipOf_127 : decode cX8_shipOf 127 = .ok (.getfield 7, 3) := by decide +kernel
theorem dX8_shipOf_130 : decode cX8_shipOf 130 = .ok (.iconst 0, 1) := by decide +kernel
theorem dX8_shipOf_131 : decode cX8_shipOf 131 = .ok (.iload_n 1, 1) := by decide +kernel
theorem dX8_shipOf_132 : decode cX8_shipOf 132 = .ok (.bipush 6, 2) := by decide +kernel
theorem dX8_shipOf_134 : decode cX8_shipOf 134 = .ok (.invokestatic 37, 3) := by decide +kernel
theorem dX8_shipOf_137 : decode cX8_shipOf 137 = .ok (.iaload, 1) := by decide +kernel
theorem dX8_shipOf_138 : decode cX8_shipOf 138 = .ok (.ireturn, 1) := by decide +kernel
theorem dX8_shipOf_139 : decode cX8_shipOf 139 = .ok (.aload_n 0, 1) := by decide +kernel
theorem dX8_shipOf_140 : decode cX8_shipOf 140 = .ok (.getfield 7, 3) := by decide +kernel
theorem dX8_shipOf_143 : decode cX8_shipOf 143 = .ok (.iconst 0, 1) := by decide +kernel
theorem dX8_shipOf_144 : decode cX8_shipOf 144 = .ok (.iload_n 1, 1) := by decide +kernel
theorem dX8_shipOf_145 : decode cX8_shipOf 145 = .ok (.iconst 5, 1) := by decide +kernel
theorem dX8_shipOf_146 : decode cX8_shipOf 146 = .ok (.invokestatic 37, 3) := by decide +kernel
theorem dX8_shipOf_149 : decode cX8_shipOf 149 = .ok (.iaload, 1) := by decide +kernel
theorem dX8_shipOf_150 : decode cX8_shipOf 150 = .ok (.ldc 129, 2) := by decide +kernel
theorem dX8_shipOf_152 : decode cX8_shipOf 152 = .ok (.iadd, 1) := by decide +kernel
theorem dX8_shipOf_153 : decode cX8_shipOf 153 = .ok (.ireturn, 1) := by decide +kernel
theorem dX8_shipOf_154 : decode cX8_shipOf 154 = .ok (.aload_n 0, 1) := by decide +kernel
theorem dX8_shipOf_155 : decode cX8_shipOf 155 = .ok (.getfield 69, 3) := by decide +kernel
theorem dX8_shipOf_158 : decode cX8_shipOf 158 = .ok (.ldc 129, 2) := by decide +kernel
theorem dX8_shipOf_160 : decode cX8_shipOf 160 = .ok (.iadd, 1) := by decide +kernel
theorem dX8_shipOf_161 : decode cX8_shipOf 161 = .ok (.ireturn, 1) := by decide +kernel
theorem dX8_cargoOf_0 : decode cX8_cargoOf 0 = .ok (.aload_n 0, 1) := by decide +kernel
theorem dX8_cargoOf_1 : decode cX8_cargoOf 1 = .ok (.iload_n 1, 1) := by decide +kernel
theorem dX8_cargoOf_2 : decode cX8_cargoOf 2 = .ok (.invokevirtual 95, 3) := by decide +kernel
theorem dX8_cargoOf_5 : decode cX8_cargoOf 5 = .ok (.ifCond .eq 13, 3) := by decide +kernel
theorem dX8_cargoOf_8 : decode cX8_cargoOf 8 = .ok (.iload_n 2, 1) := by decide +kernel
theorem dX8_cargoOf_9 : decode cX8_cargoOf 9 = .ok (.iconst 0, 1) := by decide +kernel
theorem dX8_cargoOf_10 : decode cX8_cargoOf 10 = .ok (.bipush 7, 2) := by decide +kernel
theorem dX8_cargoOf_12 : decode cX8_cargoOf 12 = .ok (.invokestatic 29, 3) := by decide +kernel
theorem dX8_cargoOf_15 : decode cX8_cargoOf 15 = .ok (.ifCond .ne 6, 3) := by decide +kernel
theorem dX8_cargoOf_18 : decode cX8_cargoOf 18 = .ok (.ldc 24, 2) := by decide +kernel
theorem dX8_cargoOf_20 : decode cX8_cargoOf 20 = .ok (.ireturn, 1) := by decide +kernel
theorem dX8_cargoOf_21 : decode cX8_cargoOf 21 = .ok (.iload_n 2, 1) := by decide +kernel
theorem dX8_cargoOf_22 : decode cX8_cargoOf 22 = .ok (.bipush 7, 2) := by decide +kernel
theorem dX8_cargoOf_24 : decode cX8_cargoOf 24 = .ok (.if_icmp .ne 24, 3) := by decide +kernel
theorem dX8_cargoOf_27 : decode cX8_cargoOf 27 = .ok (.aload_n 0, 1) := by decide +kernel
theorem dX8_cargoOf_28 : decode cX8_cargoOf 28 = .ok (.getfield 7, 3) := by decide +kernel
theorem dX8_cargoOf_31 : decode cX8_cargoOf 31 = .ok (.iconst 0, 1) := by decide +kernel
theorem dX8_cargoOf_32 : decode cX8_cargoOf 32 = .ok (.iload_n 1, 1) := by decide +kernel
theorem dX8_cargoOf_33 : decode cX8_cargoOf 33 = .ok (.bipush 6, 2) := by decide +kernel
theorem dX8_cargoOf_35 : decode cX8_cargoOf 35 = .ok (.invokestatic 44, 3) := by decide +kernel
theorem dX8_cargoOf_38 : decode cX8_cargoOf 38 = .ok (.iaload, 1) := by decide +kernel
theorem dX8_cargoOf_39 : decode cX8_cargoOf 39 = .ok (.iconst 1, 1) := by decide +kernel
theorem dX8_cargoOf_40 : decode cX8_cargoOf 40 = .ok (.if_icmp .eq 8, 3) := by decide +kernel
theorem dX8_cargoOf_43 : decode cX8_cargoOf 43 = .ok (.ldc 130, 2) := by decide +kernel
theorem dX8_cargoOf_45 : decode cX8_cargoOf 45 = .ok (.goto 14, 3) := by decide +kernel
theorem dX8_cargoOf_48 : decode cX8_cargoOf 48 = .ok (.aload_n 0, 1) := by decide +kernel
theorem dX8_cargoOf_49 : decode cX8_cargoOf 49 = .ok (.getfield 7, 3) := by decide +kernel
theorem dX8_cargoOf_52 : decode cX8_cargoOf 52 = .ok (.iconst 0, 1) := by decide +kernel
theorem dX8_cargoOf_53 : decode cX8_cargoOf 53 = .ok (.iload_n 1, 1) := by decide +kernel
theorem dX8_cargoOf_54 : decode cX8_cargoOf 54 = .ok (.iload_n 2, 1) := by decide +kernel
theorem dX8_cargoOf_55 : decode cX8_cargoOf 55 = .ok (.invokestatic 44, 3) := by decide +kernel
theorem dX8_cargoOf_58 : decode cX8_cargoOf 58 = .ok (.iaload, 1) := by decide +kernel
theorem dX8_cargoOf_59 : decode cX8_cargoOf 59 = .ok (.ireturn, 1) := by decide +kernel
theorem dX8_fixtureOf_0 : decode cX8_fixtureOf 0 = .ok (.aload_n 0, 1) := by decide +kernel
theorem dX8_fixtureOf_1 : decode cX8_fixtureOf 1 = .ok (.iload_n 1, 1) := by decide +kernel
theorem dX8_fixtureOf_2 : decode cX8_fixtureOf 2 = .ok (.invokevirtual 91, 3) := by decide +kernel
theorem dX8_fixtureOf_5 : decode cX8_fixtureOf 5 = .ok (.ifCond .eq 16, 3) := by decide +kernel
theorem dX8_fixtureOf_8 : decode cX8_fixtureOf 8 = .ok (.iload_n 2, 1) := by decide +kernel
theorem dX8_fixtureOf_9 : decode cX8_fixtureOf 9 = .ok (.ifCond .lt 12, 3) := by decide +kernel
theorem dX8_fixtureOf_12 : decode cX8_fixtureOf 12 = .ok (.iload_n 3, 1) := by decide +kernel
theorem dX8_fixtureOf_13 : decode cX8_fixtureOf 13 = .ok (.iconst 0, 1) := by decide +kernel
theorem dX8_fixtureOf_14 : decode cX8_fixtureOf 14 = .ok (.iconst 5, 1) := by decide +kernel
theorem dX8_fixtureOf_15 : decode cX8_fixtureOf 15 = .ok (.invokestatic 29, 3) := by decide +kernel
theorem dX8_fixtureOf_18 : decode cX8_fixtureOf 18 = .ok (.ifCond .ne 6, 3) := by decide +kernel
theorem dX8_fixtureOf_21 : decode cX8_fixtureOf 21 = .ok (.ldc 24, 2) := by decide +kernel
theorem dX8_fixtureOf_23 : decode cX8_fixtureOf 23 = .ok (.ireturn, 1) := by decide +kernel
theorem dX8_fixtureOf_24 : decode cX8_fixtureOf 24 = .ok (.iload_n 2, 1) := by decide +kernel
theorem dX8_fixtureOf_25 : decode cX8_fixtureOf 25 = .ok (.aload_n 0, 1) := by decide +kernel
theorem dX8_fixtureOf_26 : decode cX8_fixtureOf 26 = .ok (.getfield 7, 3) := by decide +kernel
theorem dX8_fixtureOf_29 : decode cX8_fixtureOf 29 = .ok (.iconst 0, 1) := by decide +kernel
theorem dX8_fixtureOf_30 : decode cX8_fixtureOf 30 = .ok (.iload_n 1, 1) := by decide +kernel
theorem dX8_fixtureOf_31 : decode cX8_fixtureOf 31 = .ok (.bipush 6, 2) := by decide +kernel
theorem dX8_fixtureOf_33 : decode cX8_fixtureOf 33 = .ok (.invokestatic 37, 3) := by decide +kernel
theorem dX8_fixtureOf_36 : decode cX8_fixtureOf 36 = .ok (.iaload, 1) := by decide +kernel
theorem dX8_fixtureOf_37 : decode cX8_fixtureOf 37 = .ok (.if_icmp .lt 6, 3) := by decide +kernel
theorem dX8_fixtureOf_40 : decode cX8_fixtureOf 40 = .ok (.ldc 130, 2) := by decide +kernel
theorem dX8_fixtureOf_42 : decode cX8_fixtureOf 42 = .ok (.ireturn, 1) := by decide +kernel
theorem dX8_fixtureOf_43 : decode cX8_fixtureOf 43 = .ok (.aload_n 0, 1) := by decide +kernel
theorem dX8_fixtureOf_44 : decode cX8_fixtureOf 44 = .ok (.getfield 7, 3) := by decide +kernel
theorem dX8_fixtureOf_47 : decode cX8_fixtureOf 47 = .ok (.iconst 0, 1) := by decide +kernel
theorem dX8_fixtureOf_48 : decode cX8_fixtureOf 48 = .ok (.iload_n 1, 1) := by decide +kernel
theorem dX8_fixtureOf_49 : decode cX8_fixtureOf 49 = .ok (.bipush 7, 2) := by decide +kernel
theorem dX8_fixtureOf_51 : decode cX8_fixtureOf 51 = .ok (.iload_n 2, 1) := by decide +kernel
theorem dX8_fixtureOf_52 : decode cX8_fixtureOf 52 = .ok (.iadd, 1) := by decide +kernel
theorem dX8_fixtureOf_53 : decode cX8_fixtureOf 53 = .ok (.invokestatic 37, 3) := by decide +kernel
theorem dX8_fixtureOf_56 : decode cX8_fixtureOf 56 = .ok (.iaload, 1) := by decide +kernel
theorem dX8_fixtureOf_57 : decode cX8_fixtureOf 57 = .ok (.istore 4, 2) := by decide +kernel
theorem dX8_fixtureOf_59 : decode cX8_fixtureOf 59 = .ok (.aload_n 0, 1) := by decide +kernel
theorem dX8_fixtureOf_60 : decode cX8_fixtureOf 60 = .ok (.iconst 0, 1) := by decide +kernel
theorem dX8_fixtureOf_61 : decode cX8_fixtureOf 61 = .ok (.iload_n 1, 1) := by decide +kernel
theorem dX8_fixtureOf_62 : decode cX8_fixtureOf 62 = .ok (.iload_n 2, 1) := by decide +kernel
theorem dX8_fixtureOf_63 : decode cX8_fixtureOf 63 = .ok (.invokevirtual 83, 3) := by decide +kernel
theorem dX8_fixtureOf_66 : decode cX8_fixtureOf 66 = .ok (.aload_n 0, 1) := by decide +kernel
theorem dX8_fixtureOf_67 : decode cX8_fixtureOf 67 = .ok (.iconst 0, 1) := by decide +kernel
theorem dX8_fixtureOf_68 : decode cX8_fixtureOf 68 = .ok (.iload_n 1, 1) := by decide +kernel
theorem dX8_fixtureOf_69 : decode cX8_fixtureOf 69 = .ok (.iload 4, 2) := by decide +kernel
theorem dX8_fixtureOf_71 : decode cX8_fixtureOf 71 = .ok (.aload_n 0, 1) := by decide +kernel
theorem dX8_fixtureOf_72 : decode cX8_fixtureOf 72 = .ok (.getfield 63, 3) := by decide +kernel
theorem dX8_fixtureOf_75 : decode cX8_fixtureOf 75 = .ok (.aload_n 0, 1) := by decide +kernel
theorem dX8_fixtureOf_76 : decode cX8_fixtureOf 76 = .ok (.getfield 66, 3) := by decide +kernel
theorem dX8_fixtureOf_79 : decode cX8_fixtureOf 79 = .ok (.invokevirtual 75, 3) := by decide +kernel
theorem dX8_fixtureOf_82 : decode cX8_fixtureOf 82 = .ok (.iload_n 3, 1) := by decide +kernel
theorem dX8_fixtureOf_83 : decode cX8_fixtureOf 83 = .ok (.tableswitch 59 0 4 #[33, 36, 41, 46, 51], 33) := by decide +kernel
theorem dX8_fixtureOf_116 : decode cX8_fixtureOf 116 = .ok (.iload 4, 2) := by decide +kernel
theorem dX8_fixtureOf_118 : decode cX8_fixtureOf 118 = .ok (.ireturn, 1) := by decide +kernel
theorem dX8_fixtureOf_119 : decode cX8_fixtureOf 119 = .ok (.aload_n 0, 1) := by decide +kernel
theorem dX8_fixtureOf_120 : decode cX8_fixtureOf 120 = .ok (.getfield 51, 3) := by decide +kernel
theorem dX8_fixtureOf_123 : decode cX8_fixtureOf 123 = .ok (.ireturn, 1) := by decide +kernel
theorem dX8_fixtureOf_124 : decode cX8_fixtureOf 124 = .ok (.aload_n 0, 1) := by decide +kernel
theorem dX8_fixtureOf_125 : decode cX8_fixtureOf 125 = .ok (.getfield 54, 3) := by decide +kernel
theorem dX8_fixtureOf_128 : decode cX8_fixtureOf 128 = .ok (.ireturn, 1) := by decide +kernel
theorem dX8_fixtureOf_129 : decode cX8_fixtureOf 129 = .ok (.aload_n 0, 1) := by decide +kernel
theorem dX8_fixtureOf_130 : decode cX8_fixtureOf 130 = .ok (.getfield 57, 3) := by decide +kernel
theorem dX8_fixtureOf_133 : decode cX8_fixtureOf 133 = .ok (.ireturn, 1) := by decide +kernel
theorem dX8_fixtureOf_134 : decode cX8_fixtureOf 134 = .ok (.aload_n 0, 1) := by decide +kernel
theorem dX8_fixtureOf_135 : decode cX8_fixtureOf 135 = .ok (.getfield 60, 3) := by decide +kernel
theorem dX8_fixtureOf_138 : decode cX8_fixtureOf 138 = .ok (.ldc 129, 2) := by decide +kernel
theorem dX8_fixtureOf_140 : decode cX8_fixtureOf 140 = .ok (.iadd, 1) := by decide +kernel
theorem dX8_fixtureOf_141 : decode cX8_fixtureOf 141 = .ok (.ireturn, 1) := by decide +kernel
theorem dX8_fixtureOf_142 : decode cX8_fixtureOf 142 = .ok (.aload_n 0, 1) := by decide +kernel
theorem dX8_fixtureOf_143 : decode cX8_fixtureOf 143 = .ok (.getfield 7, 3) := by decide +kernel
theorem dX8_fixtureOf_146 : decode cX8_fixtureOf 146 = .ok (.iconst 0, 1) := by decide +kernel
theorem dX8_fixtureOf_147 : decode cX8_fixtureOf 147 = .ok (.iload 4, 2) := by decide +kernel
theorem dX8_fixtureOf_149 : decode cX8_fixtureOf 149 = .ok (.iconst 4, 1) := by decide +kernel
theorem dX8_fixtureOf_150 : decode cX8_fixtureOf 150 = .ok (.invokestatic 44, 3) := by decide +kernel
theorem dX8_fixtureOf_153 : decode cX8_fixtureOf 153 = .ok (.iaload, 1) := by decide +kernel
theorem dX8_fixtureOf_154 : decode cX8_fixtureOf 154 = .ok (.aload_n 0, 1) := by decide +kernel
theorem dX8_fixtureOf_155 : decode cX8_fixtureOf 155 = .ok (.getfield 51, 3) := by decide +kernel
theorem dX8_fixtureOf_158 : decode cX8_fixtureOf 158 = .ok (.isub, 1) := by decide +kernel
theorem dX8_fixtureOf_159 : decode cX8_fixtureOf 159 = .ok (.ireturn, 1) := by decide +kernel
theorem dX8_distance_0 : decode cX8_distance 0 = .ok (.iload_n 1, 1) := by decide +kernel
theorem dX8_distance_1 : decode cX8_distance 1 = .ok (.iconst 0, 1) := by decide +kernel
theorem dX8_distance_2 : decode cX8_distance 2 = .ok (.bipush 7, 2) := by decide +kernel
theorem dX8_distance_4 : decode cX8_distance 4 = .ok (.invokestatic 29, 3) := by decide +kernel
theorem dX8_distance_7 : decode cX8_distance 7 = .ok (.ifCond .eq 22, 3) := by decide +kernel
theorem dX8_distance_10 : decode cX8_distance 10 = .ok (.iload_n 2, 1) := by decide +kernel
theorem dX8_distance_11 : decode cX8_distance 11 = .ok (.iconst 0, 1) := by decide +kernel
theorem dX8_distance_12 : decode cX8_distance 12 = .ok (.bipush 7, 2) := by decide +kernel
theorem dX8_distance_14 : decode cX8_distance 14 = .ok (.invokestatic 29, 3) := by decide +kernel
theorem dX8_distance_17 : decode cX8_distance 17 = .ok (.ifCond .eq 12, 3) := by decide +kernel
theorem dX8_distance_20 : decode cX8_distance 20 = .ok (.aload_n 0, 1) := by decide +kernel
theorem dX8_distance_21 : decode cX8_distance 21 = .ok (.iload_n 1, 1) := by decide +kernel
theorem dX8_distance_22 : decode cX8_distance 22 = .ok (.iload_n 2, 1) := by decide +kernel
theorem dX8_distance_23 : decode cX8_distance 23 = .ok (.invokevirtual 41, 3) := by decide +kernel
theorem dX8_distance_26 : decode cX8_distance 26 = .ok (.goto 5, 3) := by decide +kernel
theorem dX8_distance_29 : decode cX8_distance 29 = .ok (.ldc 24, 2) := by decide +kernel
theorem dX8_distance_31 : decode cX8_distance 31 = .ok (.ireturn, 1) := by decide +kernel
theorem dX8_voyage_0 : decode cX8_voyage 0 = .ok (.aload_n 0, 1) := by decide +kernel
theorem dX8_voyage_1 : decode cX8_voyage 1 = .ok (.iload_n 1, 1) := by decide +kernel
theorem dX8_voyage_2 : decode cX8_voyage 2 = .ok (.invokevirtual 91, 3) := by decide +kernel
theorem dX8_voyage_5 : decode cX8_voyage 5 = .ok (.ifCond .eq 20, 3) := by decide +kernel
theorem dX8_voyage_8 : decode cX8_voyage 8 = .ok (.aload_n 0, 1) := by decide +kernel
theorem dX8_voyage_9 : decode cX8_voyage 9 = .ok (.iload_n 2, 1) := by decide +kernel
theorem dX8_voyage_10 : decode cX8_voyage 10 = .ok (.invokevirtual 95, 3) := by decide +kernel
theorem dX8_voyage_13 : decode cX8_voyage 13 = .ok (.ifCond .eq 12, 3) := by decide +kernel
theorem dX8_voyage_16 : decode cX8_voyage 16 = .ok (.iload_n 3, 1) := by decide +kernel
theorem dX8_voyage_17 : decode cX8_voyage 17 = .ok (.iconst 0, 1) := by decide +kernel
theorem dX8_voyage_18 : decode cX8_voyage 18 = .ok (.iconst 4, 1) := by decide +kernel
theorem dX8_voyage_19 : decode cX8_voyage 19 = .ok (.invokestatic 29, 3) := by decide +kernel
theorem dX8_voyage_22 : decode cX8_voyage 22 = .ok (.ifCond .ne 6, 3) := by decide +kernel
theorem dX8_voyage_25 : decode cX8_voyage 25 = .ok (.ldc 24, 2) := by decide +kernel
theorem dX8_voyage_27 : decode cX8_voyage 27 = .ok (.ireturn, 1) := by decide +kernel
theorem dX8_voyage_28 : decode cX8_voyage 28 = .ok (.aload_n 0, 1) := by decide +kernel
theorem dX8_voyage_29 : decode cX8_voyage 29 = .ok (.iconst 0, 1) := by decide +kernel
theorem dX8_voyage_30 : decode cX8_voyage 30 = .ok (.iload_n 1, 1) := by decide +kernel
theorem dX8_voyage_31 : decode cX8_voyage 31 = .ok (.iload_n 2, 1) := by decide +kernel
theorem dX8_voyage_32 : decode cX8_voyage 32 = .ok (.invokevirtual 98, 3) := by decide +kernel
theorem dX8_voyage_35 : decode cX8_voyage 35 = .ok (.istore 4, 2) := by decide +kernel
theorem dX8_voyage_37 : decode cX8_voyage 37 = .ok (.iload_n 3, 1) := by decide +kernel
theorem dX8_voyage_38 : decode cX8_voyage 38 = .ok (.tableswitch 56 0 3 #[30, 33, 38, 48], 30) := by decide +kernel
theorem dX8_voyage_68 : decode cX8_voyage 68 = .ok (.iload 4, 2) := by decide +kernel
theorem dX8_voyage_70 : decode cX8_voyage 70 = .ok (.ireturn, 1) := by decide +kernel
theorem dX8_voyage_71 : decode cX8_voyage 71 = .ok (.aload_n 0, 1) := by decide +kernel
theorem dX8_voyage_72 : decode cX8_voyage 72 = .ok (.getfield 54, 3) := by decide +kernel
theorem dX8_voyage_75 : decode cX8_voyage 75 = .ok (.ireturn, 1) := by decide +kernel
theorem dX8_voyage_76 : decode cX8_voyage 76 = .ok (.aload_n 0, 1) := by decide +kernel
theorem dX8_voyage_77 : decode cX8_voyage 77 = .ok (.getfield 57, 3) := by decide +kernel
theorem dX8_voyage_80 : decode cX8_voyage 80 = .ok (.aload_n 0, 1) := by decide +kernel
theorem dX8_voyage_81 : decode cX8_voyage 81 = .ok (.getfield 66, 3) := by decide +kernel
theorem dX8_voyage_84 : decode cX8_voyage 84 = .ok (.isub, 1) := by decide +kernel
theorem dX8_voyage_85 : decode cX8_voyage 85 = .ok (.ireturn, 1) := by decide +kernel
theorem dX8_voyage_86 : decode cX8_voyage 86 = .ok (.aload_n 0, 1) := by decide +kernel
theorem dX8_voyage_87 : decode cX8_voyage 87 = .ok (.getfield 60, 3) := by decide +kernel
theorem dX8_voyage_90 : decode cX8_voyage 90 = .ok (.ldc 129, 2) := by decide +kernel
theorem dX8_voyage_92 : decode cX8_voyage 92 = .ok (.iadd, 1) := by decide +kernel
theorem dX8_voyage_93 : decode cX8_voyage 93 = .ok (.ireturn, 1) := by decide +kernel
theorem dX8_voyage_94 : decode cX8_voyage 94 = .ok (.aload_n 0, 1) := by decide +kernel
theorem dX8_voyage_95 : decode cX8_voyage 95 = .ok (.getfield 60, 3) := by decide +kernel
theorem dX8_voyage_98 : decode cX8_voyage 98 = .ok (.i2f, 1) := by decide +kernel
theorem dX8_voyage_99 : decode cX8_voyage 99 = .ok (.aload_n 0, 1) := by decide +kernel
theorem dX8_voyage_100 : decode cX8_voyage 100 = .ok (.getfield 57, 3) := by decide +kernel
theorem dX8_voyage_103 : decode cX8_voyage 103 = .ok (.aload_n 0, 1) := by decide +kernel
theorem dX8_voyage_104 : decode cX8_voyage 104 = .ok (.getfield 66, 3) := by decide +kernel
theorem dX8_voyage_107 : decode cX8_voyage 107 = .ok (.isub, 1) := by decide +kernel
theorem dX8_voyage_108 : decode cX8_voyage 108 = .ok (.i2f, 1) := by decide +kernel
theorem dX8_voyage_109 : decode cX8_voyage 109 = .ok (.fdiv, 1) := by decide +kernel
theorem dX8_voyage_110 : decode cX8_voyage 110 = .ok (.invokestatic 131, 3) := by decide +kernel
theorem dX8_voyage_113 : decode cX8_voyage 113 = .ok (.ireturn, 1) := by decide +kernel
theorem dX8_bestCargo_0 : decode cX8_bestCargo 0 = .ok (.aload_n 0, 1) := by decide +kernel
theorem dX8_bestCargo_1 : decode cX8_bestCargo 1 = .ok (.iload_n 1, 1) := by decide +kernel
theorem dX8_bestCargo_2 : decode cX8_bestCargo 2 = .ok (.invokevirtual 91, 3) := by decide +kernel
theorem dX8_bestCargo_5 : decode cX8_bestCargo 5 = .ok (.ifCond .ne 6, 3) := by decide +kernel
theorem dX8_bestCargo_8 : decode cX8_bestCargo 8 = .ok (.ldc 24, 2) := by decide +kernel
theorem dX8_bestCargo_10 : decode cX8_bestCargo 10 = .ok (.ireturn, 1) := by decide +kernel
theorem dX8_bestCargo_11 : decode cX8_bestCargo 11 = .ok (.ldc 130, 2) := by decide +kernel
theorem dX8_bestCargo_13 : decode cX8_bestCargo 13 = .ok (.istore_n 2, 1) := by decide +kernel
theorem dX8_bestCargo_14 : decode cX8_bestCargo 14 = .ok (.iconst 0, 1) := by decide +kernel
theorem dX8_bestCargo_15 : decode cX8_bestCargo 15 = .ok (.istore_n 3, 1) := by decide +kernel
theorem dX8_bestCargo_16 : decode cX8_bestCargo 16 = .ok (.iconst 0, 1) := by decide +kernel
theorem dX8_bestCargo_17 : decode cX8_bestCargo 17 = .ok (.istore 4, 2) := by decide +kernel
theorem dX8_bestCargo_19 : decode cX8_bestCargo 19 = .ok (.iload 4, 2) := by decide +kernel
theorem dX8_bestCargo_21 : decode cX8_bestCargo 21 = .ok (.aload_n 0, 1) := by decide +kernel
theorem dX8_bestCargo_22 : decode cX8_bestCargo 22 = .ok (.getfield 7, 3) := by decide +kernel
theorem dX8_bestCargo_25 : decode cX8_bestCargo 25 = .ok (.bipush 107, 2) := by decide +kernel
theorem dX8_bestCargo_27 : decode cX8_bestCargo 27 = .ok (.iaload, 1) := by decide +kernel
theorem dX8_bestCargo_28 : decode cX8_bestCargo 28 = .ok (.if_icmp .ge 68, 3) := by decide +kernel
theorem dX8_bestCargo_31 : decode cX8_bestCargo 31 = .ok (.aload_n 0, 1) := by decide +kernel
theorem dX8_bestCargo_32 : decode cX8_bestCargo 32 = .ok (.getfield 7, 3) := by decide +kernel
theorem dX8_bestCargo_35 : decode cX8_bestCargo 35 = .ok (.iconst 0, 1) := by decide +kernel
theorem dX8_bestCargo_36 : decode cX8_bestCargo 36 = .ok (.iload 4, 2) := by decide +kernel
theorem dX8_bestCargo_38 : decode cX8_bestCargo 38 = .ok (.bipush 6, 2) := by decide +kernel
theorem dX8_bestCargo_40 : decode cX8_bestCargo 40 = .ok (.invokestatic 44, 3) := by decide +kernel
theorem dX8_bestCargo_43 : decode cX8_bestCargo 43 = .ok (.iaload, 1) := by decide +kernel
theorem dX8_bestCargo_44 : decode cX8_bestCargo 44 = .ok (.ifCond .ne 18, 3) := by decide +kernel
theorem dX8_bestCargo_47 : decode cX8_bestCargo 47 = .ok (.aload_n 0, 1) := by decide +kernel
theorem dX8_bestCargo_48 : decode cX8_bestCargo 48 = .ok (.iconst 0, 1) := by decide +kernel
theorem dX8_bestCargo_49 : decode cX8_bestCargo 49 = .ok (.iload_n 1, 1) := by decide +kernel
theorem dX8_bestCargo_50 : decode cX8_bestCargo 50 = .ok (.iload 4, 2) := by decide +kernel
theorem dX8_bestCargo_52 : decode cX8_bestCargo 52 = .ok (.invokevirtual 98, 3) := by decide +kernel
theorem dX8_bestCargo_55 : decode cX8_bestCargo 55 = .ok (.ifCond .ne 7, 3) := by decide +kernel
theorem dX8_bestCargo_58 : decode cX8_bestCargo 58 = .ok (.iconst 1, 1) := by decide +kernel
theorem dX8_bestCargo_59 : decode cX8_bestCargo 59 = .ok (.goto 4, 3) := by decide +kernel
theorem dX8_bestCargo_62 : decode cX8_bestCargo 62 = .ok (.iconst 0, 1) := by decide +kernel
theorem dX8_bestCargo_63 : decode cX8_bestCargo 63 = .ok (.istore 5, 2) := by decide +kernel
theorem dX8_bestCargo_65 : decode cX8_bestCargo 65 = .ok (.iload 5, 2) := by decide +kernel
theorem dX8_bestCargo_67 : decode cX8_bestCargo 67 = .ok (.ifCond .eq 23, 3) := by decide +kernel
theorem dX8_bestCargo_70 : decode cX8_bestCargo 70 = .ok (.iload_n 2, 1) := by decide +kernel
theorem dX8_bestCargo_71 : decode cX8_bestCargo 71 = .ok (.ifCond .lt 11, 3) := by decide +kernel
theorem dX8_bestCargo_74 : decode cX8_bestCargo 74 = .ok (.aload_n 0, 1) := by decide +kernel
theorem dX8_bestCargo_75 : decode cX8_bestCargo 75 = .ok (.getfield 60, 3) := by decide +kernel
theorem dX8_bestCargo_78 : decode cX8_bestCargo 78 = .ok (.iload_n 3, 1) := by decide +kernel
theorem dX8_bestCargo_79 : decode cX8_bestCargo 79 = .ok (.if_icmp .le 11, 3) := by decide +kernel
theorem dX8_bestCargo_82 : decode cX8_bestCargo 82 = .ok (.iload 4, 2) := by decide +kernel
theorem dX8_bestCargo_84 : decode cX8_bestCargo 84 = .ok (.istore_n 2, 1) := by decide +kernel
theorem dX8_bestCargo_85 : decode cX8_bestCargo 85 = .ok (.aload_n 0, 1) := by decide +kernel
theorem dX8_bestCargo_86 : decode cX8_bestCargo 86 = .ok (.getfield 60, 3) := by decide +kernel
theorem dX8_bestCargo_89 : decode cX8_bestCargo 89 = .ok (.istore_n 3, 1) := by decide +kernel
theorem dX8_bestCargo_90 : decode cX8_bestCargo 90 = .ok (.iinc 4 1, 3) := by decide +kernel
theorem dX8_bestCargo_93 : decode cX8_bestCargo 93 = .ok (.goto (-74), 3) := by decide +kernel
theorem dX8_bestCargo_96 : decode cX8_bestCargo 96 = .ok (.iload_n 2, 1) := by decide +kernel
theorem dX8_bestCargo_97 : decode cX8_bestCargo 97 = .ok (.ireturn, 1) := by decide +kernel
theorem dX8_bestShip_0 : decode cX8_bestShip 0 = .ok (.aload_n 0, 1) := by decide +kernel
theorem dX8_bestShip_1 : decode cX8_bestShip 1 = .ok (.iload_n 1, 1) := by decide +kernel
theorem dX8_bestShip_2 : decode cX8_bestShip 2 = .ok (.invokevirtual 95, 3) := by decide +kernel
theorem dX8_bestShip_5 : decode cX8_bestShip 5 = .ok (.ifCond .ne 6, 3) := by decide +kernel
theorem dX8_bestShip_8 : decode cX8_bestShip 8 = .ok (.ldc 24, 2) := by decide +kernel
theorem dX8_bestShip_10 : decode cX8_bestShip 10 = .ok (.ireturn, 1) := by decide +kernel
theorem dX8_bestShip_11 : decode cX8_bestShip 11 = .ok (.aload_n 0, 1) := by decide +kernel
theorem dX8_bestShip_12 : decode cX8_bestShip 12 = .ok (.getfield 7, 3) := by decide +kernel
theorem dX8_bestShip_15 : decode cX8_bestShip 15 = .ok (.iconst 0, 1) := by decide +kernel
theorem dX8_bestShip_16 : decode cX8_bestShip 16 = .ok (.iload_n 1, 1) := by decide +kernel
theorem dX8_bestShip_17 : decode cX8_bestShip 17 = .ok (.bipush 6, 2) := by decide +kernel
theorem dX8_bestShip_19 : decode cX8_bestShip 19 = .ok (.invokestatic 44, 3) := by decide +kernel
theorem dX8_bestShip_22 : decode cX8_bestShip 22 = .ok (.iaload, 1) := by decide +kernel
theorem dX8_bestShip_23 : decode cX8_bestShip 23 = .ok (.ifCond .eq 6, 3) := by decide +kernel
theorem dX8_bestShip_26 : decode cX8_bestShip 26 = .ok (.ldc 101, 2) := by decide +kernel
theorem dX8_bestShip_28 : decode cX8_bestShip 28 = .ok (.ireturn, 1) := by decide +kernel
theorem dX8_bestShip_29 : decode cX8_bestShip 29 = .ok (.ldc 130, 2) := by decide +kernel
theorem dX8_bestShip_31 : decode cX8_bestShip 31 = .ok (.istore_n 2, 1) := by decide +kernel
theorem dX8_bestShip_32 : decode cX8_bestShip 32 = .ok (.iconst 0, 1) := by decide +kernel
theorem dX8_bestShip_33 : decode cX8_bestShip 33 = .ok (.istore_n 3, 1) := by decide +kernel
theorem dX8_bestShip_34 : decode cX8_bestShip 34 = .ok (.iconst 0, 1) := by decide +kernel
theorem dX8_bestShip_35 : decode cX8_bestShip 35 = .ok (.istore 4, 2) := by decide +kernel
theorem dX8_bestShip_37 : decode cX8_bestShip 37 = .ok (.iload 4, 2) := by decide +kernel
theorem dX8_bestShip_39 : decode cX8_bestShip 39 = .ok (.aload_n 0, 1) := by decide +kernel
theorem dX8_bestShip_40 : decode cX8_bestShip 40 = .ok (.getfield 7, 3) := by decide +kernel
theorem dX8_bestShip_43 : decode cX8_bestShip 43 = .ok (.bipush 16, 2) := by decide +kernel
theorem dX8_bestShip_45 : decode cX8_bestShip 45 = .ok (.iaload, 1) := by decide +kernel
theorem dX8_bestShip_46 : decode cX8_bestShip 46 = .ok (.if_icmp .ge 40, 3) := by decide +kernel
theorem dX8_bestShip_49 : decode cX8_bestShip 49 = .ok (.aload_n 0, 1) := by decide +kernel
theorem dX8_bestShip_50 : decode cX8_bestShip 50 = .ok (.iconst 0, 1) := by decide +kernel
theorem dX8_bestShip_51 : decode cX8_bestShip 51 = .ok (.iload 4, 2) := by decide +kernel
theorem dX8_bestShip_53 : decode cX8_bestShip 53 = .ok (.iload_n 1, 1) := by decide +kernel
theorem dX8_bestShip_54 : decode cX8_bestShip 54 = .ok (.invokevirtual 98, 3) := by decide +kernel
theorem dX8_bestShip_57 : decode cX8_bestShip 57 = .ok (.ifCond .ne 23, 3) := by decide +kernel
theorem dX8_bestShip_60 : decode cX8_bestShip 60 = .ok (.iload_n 2, 1) := by decide +kernel
theorem dX8_bestShip_61 : decode cX8_bestShip 61 = .ok (.ifCond .lt 11, 3) := by decide +kernel
theorem dX8_bestShip_64 : decode cX8_bestShip 64 = .ok (.aload_n 0, 1) := by decide +kernel
theorem dX8_bestShip_65 : decode cX8_bestShip 65 = .ok (.getfield 60, 3) := by decide +kernel
theorem dX8_bestShip_68 : decode cX8_bestShip 68 = .ok (.iload_n 3, 1) := by decide +kernel
theorem dX8_bestShip_69 : decode cX8_bestShip 69 = .ok (.if_icmp .le 11, 3) := by decide +kernel
theorem dX8_bestShip_72 : decode cX8_bestShip 72 = .ok (.iload 4, 2) := by decide +kernel
theorem dX8_bestShip_74 : decode cX8_bestShip 74 = .ok (.istore_n 2, 1) := by decide +kernel
theorem dX8_bestShip_75 : decode cX8_bestShip 75 = .ok (.aload_n 0, 1) := by decide +kernel
theorem dX8_bestShip_76 : decode cX8_bestShip 76 = .ok (.getfield 60, 3) := by decide +kernel
theorem dX8_bestShip_79 : decode cX8_bestShip 79 = .ok (.istore_n 3, 1) := by decide +kernel
theorem dX8_bestShip_80 : decode cX8_bestShip 80 = .ok (.iinc 4 1, 3) := by decide +kernel
theorem dX8_bestShip_83 : decode cX8_bestShip 83 = .ok (.goto (-46), 3) := by decide +kernel
theorem dX8_bestShip_86 : decode cX8_bestShip 86 = .ok (.iload_n 2, 1) := by decide +kernel
theorem dX8_bestShip_87 : decode cX8_bestShip 87 = .ok (.ireturn, 1) := by decide +kernel
theorem dX8_plan_0 : decode cX8_plan 0 = .ok (.iload_n 1, 1) := by decide +kernel
theorem dX8_plan_1 : decode cX8_plan 1 = .ok (.iconst 0, 1) := by decide +kernel
theorem dX8_plan_2 : decode cX8_plan 2 = .ok (.iconst 3, 1) := by decide +kernel
theorem dX8_plan_3 : decode cX8_plan 3 = .ok (.invokestatic 29, 3) := by decide +kernel
theorem dX8_plan_6 : decode cX8_plan 6 = .ok (.ifCond .ne 6, 3) := by decide +kernel
theorem dX8_plan_9 : decode cX8_plan 9 = .ok (.ldc 24, 2) := by decide +kernel
theorem dX8_plan_11 : decode cX8_plan 11 = .ok (.ireturn, 1) := by decide +kernel
theorem dX8_plan_12 : decode cX8_plan 12 = .ok (.aload_n 0, 1) := by decide +kernel
theorem dX8_plan_13 : decode cX8_plan 13 = .ok (.iconst 0, 1) := by decide +kernel
theorem dX8_plan_14 : decode cX8_plan 14 = .ok (.iconst 5, 1) := by decide +kernel
theorem dX8_plan_15 : decode cX8_plan 15 = .ok (.invokevirtual 20, 3) := by decide +kernel
theorem dX8_plan_18 : decode cX8_plan 18 = .ok (.iconst 0, 1) := by decide +kernel
theorem dX8_plan_19 : decode cX8_plan 19 = .ok (.istore_n 2, 1) := by decide +kernel
theorem dX8_plan_20 : decode cX8_plan 20 = .ok (.iconst 0, 1) := by decide +kernel
theorem dX8_plan_21 : decode cX8_plan 21 = .ok (.istore_n 3, 1) := by decide +kernel
theorem dX8_plan_22 : decode cX8_plan 22 = .ok (.lconst 0, 1) := by decide +kernel
theorem dX8_plan_23 : decode cX8_plan 23 = .ok (.lstore 4, 2) := by decide +kernel
theorem dX8_plan_25 : decode cX8_plan 25 = .ok (.iconst 1, 1) := by decide +kernel
theorem dX8_plan_26 : decode cX8_plan 26 = .ok (.istore 6, 2) := by decide +kernel
theorem dX8_plan_28 : decode cX8_plan 28 = .ok (.iload 6, 2) := by decide +kernel
theorem dX8_plan_30 : decode cX8_plan 30 = .ok (.ifCond .eq 177, 3) := by decide +kernel
theorem dX8_plan_33 : decode cX8_plan 33 = .ok (.iconst (-1), 1) := by decide +kernel
theorem dX8_plan_34 : decode cX8_plan 34 = .ok (.istore 7, 2) := by decide +kernel
theorem dX8_plan_36 : decode cX8_plan 36 = .ok (.iconst (-1), 1) := by decide +kernel
theorem dX8_plan_37 : decode cX8_plan 37 = .ok (.istore 8, 2) := by decide +kernel
theorem dX8_plan_39 : decode cX8_plan 39 = .ok (.iconst 0, 1) := by decide +kernel
theorem dX8_plan_40 : decode cX8_plan 40 = .ok (.istore 9, 2) := by decide +kernel
theorem dX8_plan_42 : decode cX8_plan 42 = .ok (.iconst 0, 1) := by decide +kernel
theorem dX8_plan_43 : decode cX8_plan 43 = .ok (.istore 10, 2) := by decide +kernel
theorem dX8_plan_45 : decode cX8_plan 45 = .ok (.iload 10, 2) := by decide +kernel
theorem dX8_plan_47 : decode cX8_plan 47 = .ok (.aload_n 0, 1) := by decide +kernel
theorem dX8_plan_48 : decode cX8_plan 48 = .ok (.getfield 7, 3) := by decide +kernel
theorem dX8_plan_51 : decode cX8_plan 51 = .ok (.bipush 16, 2) := by decide +kernel
theorem dX8_plan_53 : decode cX8_plan 53 = .ok (.iaload, 1) := by decide +kernel
theorem dX8_plan_54 : decode cX8_plan 54 = .ok (.if_icmp .ge 81, 3) := by decide +kernel
theorem dX8_plan_57 : decode cX8_plan 57 = .ok (.iconst 0, 1) := by decide +kernel
theorem dX8_plan_58 : decode cX8_plan 58 = .ok (.istore 11, 2) := by decide +kernel
theorem dX8_plan_60 : decode cX8_plan 60 = .ok (.iload 11, 2) := by decide +kernel
theorem dX8_plan_62 : decode cX8_plan 62 = .ok (.aload_n 0, 1) := by decide +kernel
theorem dX8_plan_63 : decode cX8_plan 63 = .ok (.getfield 7, 3) := by decide +kernel
theorem dX8_plan_66 : decode cX8_plan 66 = .ok (.bipush 107, 2) := by decide +kernel
theorem dX8_plan_68 : decode cX8_plan 68 = .ok (.iaload, 1) := by decide +kernel
theorem dX8_plan_69 : decode cX8_plan 69 = .ok (.if_icmp .ge 60, 3) := by decide +kernel
theorem dX8_plan_72 : decode cX8_plan 72 = .ok (.aload_n 0, 1) := by decide +kernel
theorem dX8_plan_73 : decode cX8_plan 73 = .ok (.getfield 7, 3) := by decide +kernel
theorem dX8_plan_76 : decode cX8_plan 76 = .ok (.iconst 5, 1) := by decide +kernel
theorem dX8_plan_77 : decode cX8_plan 77 = .ok (.iload 11, 2) := by decide +kernel
theorem dX8_plan_79 : decode cX8_plan 79 = .ok (.bipush 6, 2) := by decide +kernel
theorem dX8_plan_81 : decode cX8_plan 81 = .ok (.invokestatic 44, 3) := by decide +kernel
theorem dX8_plan_84 : decode cX8_plan 84 = .ok (.iaload, 1) := by decide +kernel
theorem dX8_plan_85 : decode cX8_plan 85 = .ok (.ifCond .ne 38, 3) := by decide +kernel
theorem dX8_plan_88 : decode cX8_plan 88 = .ok (.aload_n 0, 1) := by decide +kernel
theorem dX8_plan_89 : decode cX8_plan 89 = .ok (.iconst 5, 1) := by decide +kernel
theorem dX8_plan_90 : decode cX8_plan 90 = .ok (.iload 10, 2) := by decide +kernel
theorem dX8_plan_92 : decode cX8_plan 92 = .ok (.iload 11, 2) := by decide +kernel
theorem dX8_plan_94 : decode cX8_plan 94 = .ok (.invokevirtual 98, 3) := by decide +kernel
theorem dX8_plan_97 : decode cX8_plan 97 = .ok (.ifCond .ne 26, 3) := by decide +kernel
theorem dX8_plan_100 : decode cX8_plan 100 = .ok (.aload_n 0, 1) := by decide +kernel
theorem dX8_plan_101 : decode cX8_plan 101 = .ok (.getfield 60, 3) := by decide +kernel
theorem dX8_plan_104 : decode cX8_plan 104 = .ok (.iload 9, 2) := by decide +kernel
theorem dX8_plan_106 : decode cX8_plan 106 = .ok (.if_icmp .le 17, 3) := by decide +kernel
theorem dX8_plan_109 : decode cX8_plan 109 = .ok (.iload 10, 2) := by decide +kernel
theorem dX8_plan_111 : decode cX8_plan 111 = .ok (.istore 7, 2) := by decide +kernel
theorem dX8_plan_113 : decode cX8_plan 113 = .ok (.iload 11, 2) := by decide +kernel
theorem dX8_plan_115 : decode cX8_plan 115 = .ok (.istore 8, 2) := by decide +kernel
theorem dX8_plan_117 : decode cX8_plan 117 = .ok (.aload_n 0, 1) := by decide +kernel
theorem dX8_plan_118 : decode cX8_plan 118 = .ok (.getfield 60, 3) := by decide +kernel
theorem dX8_plan_121 : decode cX8_plan 121 = .ok (.istore 9, 2) := by decide +kernel
theorem dX8_plan_123 : decode cX8_plan 123 = .ok (.iinc 11 1, 3) := by decide +kernel
theorem dX8_plan_126 : decode cX8_plan 126 = .ok (.goto (-66), 3) := by decide +kernel
theorem dX8_plan_129 : decode cX8_plan 129 = .ok (.iinc 10 1, 3) := by decide +kernel
theorem dX8_plan_132 : decode cX8_plan 132 = .ok (.goto (-87), 3) := by decide +kernel
theorem dX8_plan_135 : decode cX8_plan 135 = .ok (.iload 7, 2) := by decide +kernel
theorem dX8_plan_137 : decode cX8_plan 137 = .ok (.ifCond .lt 7, 3) := by decide +kernel
theorem dX8_plan_140 : decode cX8_plan 140 = .ok (.iconst 1, 1) := by decide +kernel
theorem dX8_plan_141 : decode cX8_plan 141 = .ok (.goto 4, 3) := by decide +kernel
theorem dX8_plan_144 : decode cX8_plan 144 = .ok (.iconst 0, 1) := by decide +kernel
theorem dX8_plan_145 : decode cX8_plan 145 = .ok (.istore 6, 2) := by decide +kernel
theorem dX8_plan_147 : decode cX8_plan 147 = .ok (.iload 6, 2) := by decide +kernel
theorem dX8_plan_149 : decode cX8_plan 149 = .ok (.ifCond .eq 55, 3) := by decide +kernel
theorem dX8_plan_152 : decode cX8_plan 152 = .ok (.aload_n 0, 1) := by decide +kernel
theorem dX8_plan_153 : decode cX8_plan 153 = .ok (.iconst 5, 1) := by decide +kernel
theorem dX8_plan_154 : decode cX8_plan 154 = .ok (.iload 7, 2) := by decide +kernel
theorem dX8_plan_156 : decode cX8_plan 156 = .ok (.iload 8, 2) := by decide +kernel
theorem dX8_plan_158 : decode cX8_plan 158 = .ok (.invokevirtual 102, 3) := by decide +kernel
theorem dX8_plan_161 : decode cX8_plan 161 = .ok (.iinc 2 1, 3) := by decide +kernel
theorem dX8_plan_164 : decode cX8_plan 164 = .ok (.iload_n 3, 1) := by decide +kernel
theorem dX8_plan_165 : decode cX8_plan 165 = .ok (.iload 9, 2) := by decide +kernel
theorem dX8_plan_167 : decode cX8_plan 167 = .ok (.iadd, 1) := by decide +kernel
theorem dX8_plan_168 : decode cX8_plan 168 = .ok (.istore_n 3, 1) := by decide +kernel
theorem dX8_plan_169 : decode cX8_plan 169 = .ok (.lload 4, 2) := by decide +kernel
theorem dX8_plan_171 : decode cX8_plan 171 = .ok (.lconst 1, 1) := by decide +kernel
theorem dX8_plan_172 : decode cX8_plan 172 = .ok (.bipush 8, 2) := by decide +kernel
theorem dX8_plan_174 : decode cX8_plan 174 = .ok (.aload_n 0, 1) := by decide +kernel
theorem dX8_plan_175 : decode cX8_plan 175 = .ok (.getfield 7, 3) := by decide +kernel
theorem dX8_plan_178 : decode cX8_plan 178 = .ok (.iconst 0, 1) := by decide +kernel
theorem dX8_plan_179 : decode cX8_plan 179 = .ok (.iload 8, 2) := by decide +kernel
theorem dX8_plan_181 : decode cX8_plan 181 = .ok (.iconst 1, 1) := by decide +kernel
theorem dX8_plan_182 : decode cX8_plan 182 = .ok (.invokestatic 44, 3) := by decide +kernel
theorem dX8_plan_185 : decode cX8_plan 185 = .ok (.iaload, 1) := by decide +kernel
theorem dX8_plan_186 : decode cX8_plan 186 = .ok (.imul, 1) := by decide +kernel
theorem dX8_plan_187 : decode cX8_plan 187 = .ok (.aload_n 0, 1) := by decide +kernel
theorem dX8_plan_188 : decode cX8_plan 188 = .ok (.getfield 7, 3) := by decide +kernel
theorem dX8_plan_191 : decode cX8_plan 191 = .ok (.iconst 0, 1) := by decide +kernel
theorem dX8_plan_192 : decode cX8_plan 192 = .ok (.iload 8, 2) := by decide +kernel
theorem dX8_plan_194 : decode cX8_plan 194 = .ok (.iconst 2, 1) := by decide +kernel
theorem dX8_plan_195 : decode cX8_plan 195 = .ok (.invokestatic 44, 3) := by decide +kernel
theorem dX8_plan_198 : decode cX8_plan 198 = .ok (.iaload, 1) := by decide +kernel
theorem dX8_plan_199 : decode cX8_plan 199 = .ok (.iadd, 1) := by decide +kernel
theorem dX8_plan_200 : decode cX8_plan 200 = .ok (.lshl, 1) := by decide +kernel
theorem dX8_plan_201 : decode cX8_plan 201 = .ok (.lor, 1) := by decide +kernel
theorem dX8_plan_202 : decode cX8_plan 202 = .ok (.lstore 4, 2) := by decide +kernel
theorem dX8_plan_204 : decode cX8_plan 204 = .ok (.goto (-176), 3) := by decide +kernel
theorem dX8_plan_207 : decode cX8_plan 207 = .ok (.iconst 0, 1) := by decide +kernel
theorem dX8_plan_208 : decode cX8_plan 208 = .ok (.istore 7, 2) := by decide +kernel
theorem dX8_plan_210 : decode cX8_plan 210 = .ok (.iconst 0, 1) := by decide +kernel
theorem dX8_plan_211 : decode cX8_plan 211 = .ok (.istore 8, 2) := by decide +kernel
theorem dX8_plan_213 : decode cX8_plan 213 = .ok (.iload 8, 2) := by decide +kernel
theorem dX8_plan_215 : decode cX8_plan 215 = .ok (.aload_n 0, 1) := by decide +kernel
theorem dX8_plan_216 : decode cX8_plan 216 = .ok (.getfield 7, 3) := by decide +kernel
theorem dX8_plan_219 : decode cX8_plan 219 = .ok (.bipush 107, 2) := by decide +kernel
theorem dX8_plan_221 : decode cX8_plan 221 = .ok (.iaload, 1) := by decide +kernel
theorem dX8_plan_222 : decode cX8_plan 222 = .ok (.if_icmp .ge 38, 3) := by decide +kernel
theorem dX8_plan_225 : decode cX8_plan 225 = .ok (.iload 7, 2) := by decide +kernel
theorem dX8_plan_227 : decode cX8_plan 227 = .ok (.aload_n 0, 1) := by decide +kernel
theorem dX8_plan_228 : decode cX8_plan 228 = .ok (.getfield 7, 3) := by decide +kernel
theorem dX8_plan_231 : decode cX8_plan 231 = .ok (.iconst 5, 1) := by decide +kernel
theorem dX8_plan_232 : decode cX8_plan 232 = .ok (.iload 8, 2) := by decide +kernel
theorem dX8_plan_234 : decode cX8_plan 234 = .ok (.bipush 6, 2) := by decide +kernel
theorem dX8_plan_236 : decode cX8_plan 236 = .ok (.invokestatic 44, 3) := by decide +kernel
theorem dX8_plan_239 : decode cX8_plan 239 = .ok (.iaload, 1) := by decide +kernel
theorem dX8_plan_240 : decode cX8_plan 240 = .ok (.ifCond .ne 10, 3) := by decide +kernel
theorem dX8_plan_243 : decode cX8_plan 243 = .ok (.iconst 1, 1) := by decide +kernel
theorem dX8_plan_244 : decode cX8_plan 244 = .ok (.iload 8, 2) := by decide +kernel
theorem dX8_plan_246 : decode cX8_plan 246 = .ok (.ishl, 1) := by decide +kernel
theorem dX8_plan_247 : decode cX8_plan 247 = .ok (.goto 4, 3) := by decide +kernel
theorem dX8_plan_250 : decode cX8_plan 250 = .ok (.iconst 0, 1) := by decide +kernel
theorem dX8_plan_251 : decode cX8_plan 251 = .ok (.ior, 1) := by decide +kernel
theorem dX8_plan_252 : decode cX8_plan 252 = .ok (.istore 7, 2) := by decide +kernel
theorem dX8_plan_254 : decode cX8_plan 254 = .ok (.iinc 8 1, 3) := by decide +kernel
theorem dX8_plan_257 : decode cX8_plan 257 = .ok (.goto (-44), 3) := by decide +kernel
theorem dX8_plan_260 : decode cX8_plan 260 = .ok (.iconst 0, 1) := by decide +kernel
theorem dX8_plan_261 : decode cX8_plan 261 = .ok (.istore 8, 2) := by decide +kernel
theorem dX8_plan_263 : decode cX8_plan 263 = .ok (.iconst 0, 1) := by decide +kernel
theorem dX8_plan_264 : decode cX8_plan 264 = .ok (.istore 9, 2) := by decide +kernel
theorem dX8_plan_266 : decode cX8_plan 266 = .ok (.iload 9, 2) := by decide +kernel
theorem dX8_plan_268 : decode cX8_plan 268 = .ok (.bipush 64, 2) := by decide +kernel
theorem dX8_plan_270 : decode cX8_plan 270 = .ok (.if_icmp .ge 22, 3) := by decide +kernel
theorem dX8_plan_273 : decode cX8_plan 273 = .ok (.iload 8, 2) := by decide +kernel
theorem dX8_plan_275 : decode cX8_plan 275 = .ok (.lload 4, 2) := by decide +kernel
theorem dX8_plan_277 : decode cX8_plan 277 = .ok (.iload 9, 2) := by decide +kernel
theorem dX8_plan_279 : decode cX8_plan 279 = .ok (.lshr, 1) := by decide +kernel
theorem dX8_plan_280 : decode cX8_plan 280 = .ok (.lconst 1, 1) := by decide +kernel
theorem dX8_plan_281 : decode cX8_plan 281 = .ok (.land, 1) := by decide +kernel
theorem dX8_plan_282 : decode cX8_plan 282 = .ok (.l2i, 1) := by decide +kernel
theorem dX8_plan_283 : decode cX8_plan 283 = .ok (.iadd, 1) := by decide +kernel
theorem dX8_plan_284 : decode cX8_plan 284 = .ok (.istore 8, 2) := by decide +kernel
theorem dX8_plan_286 : decode cX8_plan 286 = .ok (.iinc 9 1, 3) := by decide +kernel
theorem dX8_plan_289 : decode cX8_plan 289 = .ok (.goto (-23), 3) := by decide +kernel
theorem dX8_plan_292 : decode cX8_plan 292 = .ok (.iload_n 1, 1) := by decide +kernel
theorem dX8_plan_293 : decode cX8_plan 293 = .ok (.ifCond .ne 7, 3) := by decide +kernel
theorem dX8_plan_296 : decode cX8_plan 296 = .ok (.iload_n 2, 1) := by decide +kernel
theorem dX8_plan_297 : decode cX8_plan 297 = .ok (.goto 24, 3) := by decide +kernel
theorem dX8_plan_300 : decode cX8_plan 300 = .ok (.iload_n 1, 1) := by decide +kernel
theorem dX8_plan_301 : decode cX8_plan 301 = .ok (.iconst 1, 1) := by decide +kernel
theorem dX8_plan_302 : decode cX8_plan 302 = .ok (.if_icmp .ne 7, 3) := by decide +kernel
theorem dX8_plan_305 : decode cX8_plan 305 = .ok (.iload_n 3, 1) := by decide +kernel
theorem dX8_plan_306 : decode cX8_plan 306 = .ok (.goto 15, 3) := by decide +kernel
theorem dX8_plan_309 : decode cX8_plan 309 = .ok (.iload_n 1, 1) := by decide +kernel
theorem dX8_plan_310 : decode cX8_plan 310 = .ok (.iconst 2, 1) := by decide +kernel
theorem dX8_plan_311 : decode cX8_plan 311 = .ok (.if_icmp .ne 8, 3) := by decide +kernel
theorem dX8_plan_314 : decode cX8_plan 314 = .ok (.iload 7, 2) := by decide +kernel
theorem dX8_plan_316 : decode cX8_plan 316 = .ok (.goto 5, 3) := by decide +kernel
theorem dX8_plan_319 : decode cX8_plan 319 = .ok (.iload 8, 2) := by decide +kernel
theorem dX8_plan_321 : decode cX8_plan 321 = .ok (.ireturn, 1) := by decide +kernel
theorem dX8_slack_0 : decode cX8_slack 0 = .ok (.aload_n 0, 1) := by decide +kernel
theorem dX8_slack_1 : decode cX8_slack 1 = .ok (.iload_n 1, 1) := by decide +kernel
theorem dX8_slack_2 : decode cX8_slack 2 = .ok (.invokevirtual 91, 3) := by decide +kernel
theorem dX8_slack_5 : decode cX8_slack 5 = .ok (.ifCond .ne 6, 3) := by decide +kernel
theorem dX8_slack_8 : decode cX8_slack 8 = .ok (.ldc 24, 2) := by decide +kernel
theorem dX8_slack_10 : decode cX8_slack 10 = .ok (.ireturn, 1) := by decide +kernel
theorem dX8_slack_11 : decode cX8_slack 11 = .ok (.aload_n 0, 1) := by decide +kernel
theorem dX8_slack_12 : decode cX8_slack 12 = .ok (.getfield 7, 3) := by decide +kernel
theorem dX8_slack_15 : decode cX8_slack 15 = .ok (.iconst 0, 1) := by decide +kernel
theorem dX8_slack_16 : decode cX8_slack 16 = .ok (.iload_n 1, 1) := by decide +kernel
theorem dX8_slack_17 : decode cX8_slack 17 = .ok (.bipush 6, 2) := by decide +kernel
theorem dX8_slack_19 : decode cX8_slack 19 = .ok (.invokestatic 37, 3) := by decide +kernel
theorem dX8_slack_22 : decode cX8_slack 22 = .ok (.iaload, 1) := by decide +kernel
theorem dX8_slack_23 : decode cX8_slack 23 = .ok (.istore_n 2, 1) := by decide +kernel
theorem dX8_slack_24 : decode cX8_slack 24 = .ok (.iload_n 2, 1) := by decide +kernel
theorem dX8_slack_25 : decode cX8_slack 25 = .ok (.ifCond .ne 6, 3) := by decide +kernel
theorem dX8_slack_28 : decode cX8_slack 28 = .ok (.ldc 130, 2) := by decide +kernel
theorem dX8_slack_30 : decode cX8_slack 30 = .ok (.ireturn, 1) := by decide +kernel
theorem dX8_slack_31 : decode cX8_slack 31 = .ok (.aload_n 0, 1) := by decide +kernel
theorem dX8_slack_32 : decode cX8_slack 32 = .ok (.iconst 0, 1) := by decide +kernel
theorem dX8_slack_33 : decode cX8_slack 33 = .ok (.iconst 5, 1) := by decide +kernel
theorem dX8_slack_34 : decode cX8_slack 34 = .ok (.invokevirtual 20, 3) := by decide +kernel
theorem dX8_slack_37 : decode cX8_slack 37 = .ok (.iconst 0, 1) := by decide +kernel
theorem dX8_slack_38 : decode cX8_slack 38 = .ok (.istore_n 3, 1) := by decide +kernel
theorem dX8_slack_39 : decode cX8_slack 39 = .ok (.iconst 1, 1) := by decide +kernel
theorem dX8_slack_40 : decode cX8_slack 40 = .ok (.istore 4, 2) := by decide +kernel
theorem dX8_slack_42 : decode cX8_slack 42 = .ok (.iload 4, 2) := by decide +kernel
theorem dX8_slack_44 : decode cX8_slack 44 = .ok (.ifCond .eq 62, 3) := by decide +kernel
theorem dX8_slack_47 : decode cX8_slack 47 = .ok (.iload_n 3, 1) := by decide +kernel
theorem dX8_slack_48 : decode cX8_slack 48 = .ok (.sipush 999, 3) := by decide +kernel
theorem dX8_slack_51 : decode cX8_slack 51 = .ok (.if_icmp .ge 55, 3) := by decide +kernel
theorem dX8_slack_54 : decode cX8_slack 54 = .ok (.aload_n 0, 1) := by decide +kernel
theorem dX8_slack_55 : decode cX8_slack 55 = .ok (.getfield 7, 3) := by decide +kernel
theorem dX8_slack_58 : decode cX8_slack 58 = .ok (.iconst 5, 1) := by decide +kernel
theorem dX8_slack_59 : decode cX8_slack 59 = .ok (.iload_n 1, 1) := by decide +kernel
theorem dX8_slack_60 : decode cX8_slack 60 = .ok (.iconst 4, 1) := by decide +kernel
theorem dX8_slack_61 : decode cX8_slack 61 = .ok (.invokestatic 37, 3) := by decide +kernel
theorem dX8_slack_64 : decode cX8_slack 64 = .ok (.dup2, 1) := by decide +kernel
theorem dX8_slack_65 : decode cX8_slack 65 = .ok (.iaload, 1) := by decide +kernel
theorem dX8_slack_66 : decode cX8_slack 66 = .ok (.iconst 1, 1) := by decide +kernel
theorem dX8_slack_67 : decode cX8_slack 67 = .ok (.iadd, 1) := by decide +kernel
theorem dX8_slack_68 : decode cX8_slack 68 = .ok (.iastore, 1) := by decide +kernel
theorem dX8_slack_69 : decode cX8_slack 69 = .ok (.aload_n 0, 1) := by decide +kernel
theorem dX8_slack_70 : decode cX8_slack 70 = .ok (.iconst 5, 1) := by decide +kernel
theorem dX8_slack_71 : decode cX8_slack 71 = .ok (.iload_n 1, 1) := by decide +kernel
theorem dX8_slack_72 : decode cX8_slack 72 = .ok (.invokevirtual 87, 3) := by decide +kernel
theorem dX8_slack_75 : decode cX8_slack 75 = .ok (.aload_n 0, 1) := by decide +kernel
theorem dX8_slack_76 : decode cX8_slack 76 = .ok (.getfield 72, 3) := by decide +kernel
theorem dX8_slack_79 : decode cX8_slack 79 = .ok (.iload_n 2, 1) := by decide +kernel
theorem dX8_slack_80 : decode cX8_slack 80 = .ok (.if_icmp .ne 7, 3) := by decide +kernel
theorem dX8_slack_83 : decode cX8_slack 83 = .ok (.iconst 1, 1) := by decide +kernel
theorem dX8_slack_84 : decode cX8_slack 84 = .ok (.goto 4, 3) := by decide +kernel
theorem dX8_slack_87 : decode cX8_slack 87 = .ok (.iconst 0, 1) := by decide +kernel
theorem dX8_slack_88 : decode cX8_slack 88 = .ok (.istore 4, 2) := by decide +kernel
theorem dX8_slack_90 : decode cX8_slack 90 = .ok (.iload_n 3, 1) := by decide +kernel
theorem dX8_slack_91 : decode cX8_slack 91 = .ok (.iload 4, 2) := by decide +kernel
theorem dX8_slack_93 : decode cX8_slack 93 = .ok (.ifCond .eq 7, 3) := by decide +kernel
theorem dX8_slack_96 : decode cX8_slack 96 = .ok (.iconst 1, 1) := by decide +kernel
theorem dX8_slack_97 : decode cX8_slack 97 = .ok (.goto 4, 3) := by decide +kernel
theorem dX8_slack_100 : decode cX8_slack 100 = .ok (.iconst 0, 1) := by decide +kernel
theorem dX8_slack_101 : decode cX8_slack 101 = .ok (.iadd, 1) := by decide +kernel
theorem dX8_slack_102 : decode cX8_slack 102 = .ok (.istore_n 3, 1) := by decide +kernel
theorem dX8_slack_103 : decode cX8_slack 103 = .ok (.goto (-61), 3) := by decide +kernel
theorem dX8_slack_106 : decode cX8_slack 106 = .ok (.iload_n 3, 1) := by decide +kernel
theorem dX8_slack_107 : decode cX8_slack 107 = .ok (.ireturn, 1) := by decide +kernel
theorem dX8_cargoes_0 : decode cX8_cargoes 0 = .ok (.iconst 0, 1) := by decide +kernel
theorem dX8_cargoes_1 : decode cX8_cargoes 1 = .ok (.istore_n 2, 1) := by decide +kernel
theorem dX8_cargoes_2 : decode cX8_cargoes 2 = .ok (.iconst 0, 1) := by decide +kernel
theorem dX8_cargoes_3 : decode cX8_cargoes 3 = .ok (.istore_n 3, 1) := by decide +kernel
theorem dX8_cargoes_4 : decode cX8_cargoes 4 = .ok (.iload_n 3, 1) := by decide +kernel
theorem dX8_cargoes_5 : decode cX8_cargoes 5 = .ok (.aload_n 0, 1) := by decide +kernel
theorem dX8_cargoes_6 : decode cX8_cargoes 6 = .ok (.getfield 7, 3) := by decide +kernel
theorem dX8_cargoes_9 : decode cX8_cargoes 9 = .ok (.bipush 107, 2) := by decide +kernel
theorem dX8_cargoes_11 : decode cX8_cargoes 11 = .ok (.iaload, 1) := by decide +kernel
theorem dX8_cargoes_12 : decode cX8_cargoes 12 = .ok (.if_icmp .ge 33, 3) := by decide +kernel
theorem dX8_cargoes_15 : decode cX8_cargoes 15 = .ok (.iload_n 2, 1) := by decide +kernel
theorem dX8_cargoes_16 : decode cX8_cargoes 16 = .ok (.aload_n 0, 1) := by decide +kernel
theorem dX8_cargoes_17 : decode cX8_cargoes 17 = .ok (.getfield 7, 3) := by decide +kernel
theorem dX8_cargoes_20 : decode cX8_cargoes 20 = .ok (.iconst 0, 1) := by decide +kernel
theorem dX8_cargoes_21 : decode cX8_cargoes 21 = .ok (.iload_n 3, 1) := by decide +kernel
theorem dX8_cargoes_22 : decode cX8_cargoes 22 = .ok (.bipush 6, 2) := by decide +kernel
theorem dX8_cargoes_24 : decode cX8_cargoes 24 = .ok (.invokestatic 44, 3) := by decide +kernel
theorem dX8_cargoes_27 : decode cX8_cargoes 27 = .ok (.iaload, 1) := by decide +kernel
theorem dX8_cargoes_28 : decode cX8_cargoes 28 = .ok (.iload_n 1, 1) := by decide +kernel
theorem dX8_cargoes_29 : decode cX8_cargoes 29 = .ok (.if_icmp .ne 7, 3) := by decide +kernel
theorem dX8_cargoes_32 : decode cX8_cargoes 32 = .ok (.iconst 1, 1) := by decide +kernel
theorem dX8_cargoes_33 : decode cX8_cargoes 33 = .ok (.goto 4, 3) := by decide +kernel
theorem dX8_cargoes_36 : decode cX8_cargoes 36 = .ok (.iconst 0, 1) := by decide +kernel
theorem dX8_cargoes_37 : decode cX8_cargoes 37 = .ok (.iadd, 1) := by decide +kernel
theorem dX8_cargoes_38 : decode cX8_cargoes 38 = .ok (.istore_n 2, 1) := by decide +kernel
theorem dX8_cargoes_39 : decode cX8_cargoes 39 = .ok (.iinc 3 1, 3) := by decide +kernel
theorem dX8_cargoes_42 : decode cX8_cargoes 42 = .ok (.goto (-38), 3) := by decide +kernel
theorem dX8_cargoes_45 : decode cX8_cargoes 45 = .ok (.iload_n 2, 1) := by decide +kernel
theorem dX8_cargoes_46 : decode cX8_cargoes 46 = .ok (.ireturn, 1) := by decide +kernel
theorem dX8_accounts_0 : decode cX8_accounts 0 = .ok (.ldc 129, 2) := by decide +kernel
theorem dX8_accounts_2 : decode cX8_accounts 2 = .ok (.istore_n 1, 1) := by decide +kernel
theorem dX8_accounts_3 : decode cX8_accounts 3 = .ok (.iconst 0, 1) := by decide +kernel
theorem dX8_accounts_4 : decode cX8_accounts 4 = .ok (.istore_n 2, 1) := by decide +kernel
theorem dX8_accounts_5 : decode cX8_accounts 5 = .ok (.iload_n 2, 1) := by decide +kernel
theorem dX8_accounts_6 : decode cX8_accounts 6 = .ok (.aload_n 0, 1) := by decide +kernel
theorem dX8_accounts_7 : decode cX8_accounts 7 = .ok (.getfield 7, 3) := by decide +kernel
theorem dX8_accounts_10 : decode cX8_accounts 10 = .ok (.bipush 16, 2) := by decide +kernel
theorem dX8_accounts_12 : decode cX8_accounts 12 = .ok (.iaload, 1) := by decide +kernel
theorem dX8_accounts_13 : decode cX8_accounts 13 = .ok (.if_icmp .ge 23, 3) := by decide +kernel
theorem dX8_accounts_16 : decode cX8_accounts 16 = .ok (.iload_n 1, 1) := by decide +kernel
theorem dX8_accounts_17 : decode cX8_accounts 17 = .ok (.aload_n 0, 1) := by decide +kernel
theorem dX8_accounts_18 : decode cX8_accounts 18 = .ok (.getfield 7, 3) := by decide +kernel
theorem dX8_accounts_21 : decode cX8_accounts 21 = .ok (.iconst 0, 1) := by decide +kernel
theorem dX8_accounts_22 : decode cX8_accounts 22 = .ok (.iload_n 2, 1) := by decide +kernel
theorem dX8_accounts_23 : decode cX8_accounts 23 = .ok (.iconst 5, 1) := by decide +kernel
theorem dX8_accounts_24 : decode cX8_accounts 24 = .ok (.invokestatic 37, 3) := by decide +kernel
theorem dX8_accounts_27 : decode cX8_accounts 27 = .ok (.iaload, 1) := by decide +kernel
theorem dX8_accounts_28 : decode cX8_accounts 28 = .ok (.iadd, 1) := by decide +kernel
theorem dX8_accounts_29 : decode cX8_accounts 29 = .ok (.istore_n 1, 1) := by decide +kernel
theorem dX8_accounts_30 : decode cX8_accounts 30 = .ok (.iinc 2 1, 3) := by decide +kernel
theorem dX8_accounts_33 : decode cX8_accounts 33 = .ok (.goto (-28), 3) := by decide +kernel
theorem dX8_accounts_36 : decode cX8_accounts 36 = .ok (.iload_n 1, 1) := by decide +kernel
theorem dX8_accounts_37 : decode cX8_accounts 37 = .ok (.ireturn, 1) := by decide +kernel
theorem dX8_count_0 : decode cX8_count 0 = .ok (.iload_n 1, 1) := by decide +kernel
theorem dX8_count_1 : decode cX8_count 1 = .ok (.tableswitch 112 0 8 #[51, 59, 67, 73, 79, 84, 93, 102, 107], 51) := by decide +kernel
theorem dX8_count_52 : decode cX8_count 52 = .ok (.aload_n 0, 1) := by decide +kernel
theorem dX8_count_53 : decode cX8_count 53 = .ok (.getfield 7, 3) := by decide +kernel
theorem dX8_count_56 : decode cX8_count 56 = .ok (.bipush 16, 2) := by decide +kernel
theorem dX8_count_58 : decode cX8_count 58 = .ok (.iaload, 1) := by decide +kernel
theorem dX8_count_59 : decode cX8_count 59 = .ok (.ireturn, 1) := by decide +kernel
theorem dX8_count_60 : decode cX8_count 60 = .ok (.aload_n 0, 1) := by decide +kernel
theorem dX8_count_61 : decode cX8_count 61 = .ok (.getfield 7, 3) := by decide +kernel
theorem dX8_count_64 : decode cX8_count 64 = .ok (.bipush 107, 2) := by decide +kernel
theorem dX8_count_66 : decode cX8_count 66 = .ok (.iaload, 1) := by decide +kernel
theorem dX8_count_67 : decode cX8_count 67 = .ok (.ireturn, 1) := by decide +kernel
theorem dX8_count_68 : decode cX8_count 68 = .ok (.aload_n 0, 1) := by decide +kernel
theorem dX8_count_69 : decode cX8_count 69 = .ok (.iconst 0, 1) := by decide +kernel
theorem dX8_count_70 : decode cX8_count 70 = .ok (.invokevirtual 105, 3) := by decide +kernel
theorem dX8_count_73 : decode cX8_count 73 = .ok (.ireturn, 1) := by decide +kernel
theorem dX8_count_74 : decode cX8_count 74 = .ok (.aload_n 0, 1) := by decide +kernel
theorem dX8_count_75 : decode cX8_count 75 = .ok (.iconst 1, 1) := by decide +kernel
theorem dX8_count_76 : decode cX8_count 76 = .ok (.invokevirtual 105, 3) := by decide +kernel
theorem dX8_count_79 : decode cX8_count 79 = .ok (.ireturn, 1) := by decide +kernel
theorem dX8_count_80 : decode cX8_count 80 = .ok (.aload_n 0, 1) := by decide +kernel
theorem dX8_count_81 : decode cX8_count 81 = .ok (.invokevirtual 137, 3) := by decide +kernel
theorem dX8_count_84 : decode cX8_count 84 = .ok (.ireturn, 1) := by decide +kernel
theorem dX8_count_85 : decode cX8_count 85 = .ok (.aload_n 0, 1) := by decide +kernel
theorem dX8_count_86 : decode cX8_count 86 = .ok (.getfield 7, 3) := by decide +kernel
theorem dX8_count_89 : decode cX8_count 89 = .ok (.sipush 188, 3) := by decide +kernel
theorem dX8_count_92 : decode cX8_count 92 = .ok (.iaload, 1) := by decide +kernel
theorem dX8_count_93 : decode cX8_count 93 = .ok (.ireturn, 1) := by decide +kernel
theorem dX8_count_94 : decode cX8_count 94 = .ok (.aload_n 0, 1) := by decide +kernel
theorem dX8_count_95 : decode cX8_count 95 = .ok (.getfield 7, 3) := by decide +kernel
theorem dX8_count_98 : decode cX8_count 98 = .ok (.sipush 189, 3) := by decide +kernel
theorem dX8_count_101 : decode cX8_count 101 = .ok (.iaload, 1) := by decide +kernel
theorem dX8_count_102 : decode cX8_count 102 = .ok (.ireturn, 1) := by decide +kernel
theorem dX8_count_103 : decode cX8_count 103 = .ok (.aload_n 0, 1) := by decide +kernel
theorem dX8_count_104 : decode cX8_count 104 = .ok (.getfield 25, 3) := by decide +kernel
theorem dX8_count_107 : decode cX8_count 107 = .ok (.ireturn, 1) := by decide +kernel
theorem dX8_count_108 : decode cX8_count 108 = .ok (.aload_n 0, 1) := by decide +kernel
theorem dX8_count_109 : decode cX8_count 109 = .ok (.getfield 141, 3) := by decide +kernel
theorem dX8_count_112 : decode cX8_count 112 = .ok (.ireturn, 1) := by decide +kernel
theorem dX8_count_113 : decode cX8_count 113 = .ok (.ldc 24, 2) := by decide +kernel
theorem dX8_count_115 : decode cX8_count 115 = .ok (.ireturn, 1) := by decide +kernel
theorem dX8_undo_0 : decode cX8_undo 0 = .ok (.aload_n 0, 1) := by decide +kernel
theorem dX8_undo_1 : decode cX8_undo 1 = .ok (.getfield 25, 3) := by decide +kernel
theorem dX8_undo_4 : decode cX8_undo 4 = .ok (.ifCond .ne 6, 3) := by decide +kernel
theorem dX8_undo_7 : decode cX8_undo 7 = .ok (.ldc 101, 2) := by decide +kernel
theorem dX8_undo_9 : decode cX8_undo 9 = .ok (.ireturn, 1) := by decide +kernel
theorem dX8_undo_10 : decode cX8_undo 10 = .ok (.aload_n 0, 1) := by decide +kernel
theorem dX8_undo_11 : decode cX8_undo 11 = .ok (.aload_n 0, 1) := by decide +kernel
theorem dX8_undo_12 : decode cX8_undo 12 = .ok (.getfield 25, 3) := by decide +kernel
theorem dX8_undo_15 : decode cX8_undo 15 = .ok (.iconst 0, 1) := by decide +kernel
theorem dX8_undo_16 : decode cX8_undo 16 = .ok (.invokevirtual 20, 3) := by decide +kernel
theorem dX8_undo_19 : decode cX8_undo 19 = .ok (.aload_n 0, 1) := by decide +kernel
theorem dX8_undo_20 : decode cX8_undo 20 = .ok (.dup, 1) := by decide +kernel
theorem dX8_undo_21 : decode cX8_undo 21 = .ok (.getfield 25, 3) := by decide +kernel
theorem dX8_undo_24 : decode cX8_undo 24 = .ok (.iconst 1, 1) := by decide +kernel
theorem dX8_undo_25 : decode cX8_undo 25 = .ok (.isub, 1) := by decide +kernel
theorem dX8_undo_26 : decode cX8_undo 26 = .ok (.putfield 25, 3) := by decide +kernel
theorem dX8_undo_29 : decode cX8_undo 29 = .ok (.aload_n 0, 1) := by decide +kernel
theorem dX8_undo_30 : decode cX8_undo 30 = .ok (.getfield 25, 3) := by decide +kernel
theorem dX8_undo_33 : decode cX8_undo 33 = .ok (.ireturn, 1) := by decide +kernel
theorem dX8_type_0 : decode cX8_type 0 = .ok (.iload_n 1, 1) := by decide +kernel
theorem dX8_type_1 : decode cX8_type 1 = .ok (.bipush 32, 2) := by decide +kernel
theorem dX8_type_3 : decode cX8_type 3 = .ok (.bipush 126, 2) := by decide +kernel
theorem dX8_type_5 : decode cX8_type 5 = .ok (.invokestatic 29, 3) := by decide +kernel
theorem dX8_type_8 : decode cX8_type 8 = .ok (.ifCond .ne 6, 3) := by decide +kernel
theorem dX8_type_11 : decode cX8_type 11 = .ok (.ldc 24, 2) := by decide +kernel
theorem dX8_type_13 : decode cX8_type 13 = .ok (.ireturn, 1) := by decide +kernel
theorem dX8_type_14 : decode cX8_type 14 = .ok (.aload_n 0, 1) := by decide +kernel
theorem dX8_type_15 : decode cX8_type 15 = .ok (.getfield 141, 3) := by decide +kernel
theorem dX8_type_18 : decode cX8_type 18 = .ok (.bipush 60, 2) := by decide +kernel
theorem dX8_type_20 : decode cX8_type 20 = .ok (.if_icmp .ne 6, 3) := by decide +kernel
theorem dX8_type_23 : decode cX8_type 23 = .ok (.ldc 90, 2) := by decide +kernel
theorem dX8_type_25 : decode cX8_type 25 = .ok (.ireturn, 1) := by decide +kernel
theorem dX8_type_26 : decode cX8_type 26 = .ok (.aload_n 0, 1) := by decide +kernel
theorem dX8_type_27 : decode cX8_type 27 = .ok (.getfield 13, 3) := by decide +kernel
theorem dX8_type_30 : decode cX8_type 30 = .ok (.aload_n 0, 1) := by decide +kernel
theorem dX8_type_31 : decode cX8_type 31 = .ok (.getfield 141, 3) := by decide +kernel
theorem dX8_type_34 : decode cX8_type 34 = .ok (.iload_n 1, 1) := by decide +kernel
theorem dX8_type_35 : decode cX8_type 35 = .ok (.i2c, 1) := by decide +kernel
theorem dX8_type_36 : decode cX8_type 36 = .ok (.castore, 1) := by decide +kernel
theorem dX8_type_37 : decode cX8_type 37 = .ok (.aload_n 0, 1) := by decide +kernel
theorem dX8_type_38 : decode cX8_type 38 = .ok (.dup, 1) := by decide +kernel
theorem dX8_type_39 : decode cX8_type 39 = .ok (.getfield 141, 3) := by decide +kernel
theorem dX8_type_42 : decode cX8_type 42 = .ok (.iconst 1, 1) := by decide +kernel
theorem dX8_type_43 : decode cX8_type 43 = .ok (.iadd, 1) := by decide +kernel
theorem dX8_type_44 : decode cX8_type 44 = .ok (.putfield 141, 3) := by decide +kernel
theorem dX8_type_47 : decode cX8_type 47 = .ok (.aload_n 0, 1) := by decide +kernel
theorem dX8_type_48 : decode cX8_type 48 = .ok (.getfield 141, 3) := by decide +kernel
theorem dX8_type_51 : decode cX8_type 51 = .ok (.ireturn, 1) := by decide +kernel
theorem dX8_clearText_0 : decode cX8_clearText 0 = .ok (.aload_n 0, 1) := by decide +kernel
theorem dX8_clearText_1 : decode cX8_clearText 1 = .ok (.getfield 141, 3) := by decide +kernel
theorem dX8_clearText_4 : decode cX8_clearText 4 = .ok (.istore_n 1, 1) := by decide +kernel
theorem dX8_clearText_5 : decode cX8_clearText 5 = .ok (.aload_n 0, 1) := by decide +kernel
theorem dX8_clearText_6 : decode cX8_clearText 6 = .ok (.iconst 0, 1) := by decide +kernel
theorem dX8_clearText_7 : decode cX8_clearText 7 = .ok (.putfield 141, 3) := by decide +kernel
theorem dX8_clearText_10 : decode cX8_clearText 10 = .ok (.iload_n 1, 1) := by decide +kernel
theorem dX8_clearText_11 : decode cX8_clearText 11 = .ok (.ireturn, 1) := by decide +kernel
theorem dX8_sign_0 : decode cX8_sign 0 = .ok (.aload_n 0, 1) := by decide +kernel
theorem dX8_sign_1 : decode cX8_sign 1 = .ok (.getfield 144, 3) := by decide +kernel
theorem dX8_sign_4 : decode cX8_sign 4 = .ok (.aload_n 0, 1) := by decide +kernel
theorem dX8_sign_5 : decode cX8_sign 5 = .ok (.getfield 141, 3) := by decide +kernel
theorem dX8_sign_8 : decode cX8_sign 8 = .ok (.if_icmp .ge 15, 3) := by decide +kernel
theorem dX8_sign_11 : decode cX8_sign 11 = .ok (.aload_n 0, 1) := by decide +kernel
theorem dX8_sign_12 : decode cX8_sign 12 = .ok (.getfield 13, 3) := by decide +kernel
theorem dX8_sign_15 : decode cX8_sign 15 = .ok (.aload_n 0, 1) := by decide +kernel
theorem dX8_sign_16 : decode cX8_sign 16 = .ok (.getfield 144, 3) := by decide +kernel
theorem dX8_sign_19 : decode cX8_sign 19 = .ok (.caload, 1) := by decide +kernel
theorem dX8_sign_20 : decode cX8_sign 20 = .ok (.goto 4, 3) := by decide +kernel
theorem dX8_sign_23 : decode cX8_sign 23 = .ok (.iconst 0, 1) := by decide +kernel
theorem dX8_sign_24 : decode cX8_sign 24 = .ok (.ireturn, 1) := by decide +kernel
theorem dX8_number_0 : decode cX8_number 0 = .ok (.aload_n 0, 1) := by decide +kernel
theorem dX8_number_1 : decode cX8_number 1 = .ok (.getfield 144, 3) := by decide +kernel
theorem dX8_number_4 : decode cX8_number 4 = .ok (.istore_n 2, 1) := by decide +kernel
theorem dX8_number_5 : decode cX8_number 5 = .ok (.iconst 0, 1) := by decide +kernel
theorem dX8_number_6 : decode cX8_number 6 = .ok (.istore_n 3, 1) := by decide +kernel
theorem dX8_number_7 : decode cX8_number 7 = .ok (.aload_n 0, 1) := by decide +kernel
theorem dX8_number_8 : decode cX8_number 8 = .ok (.getfield 144, 3) := by decide +kernel
theorem dX8_number_11 : decode cX8_number 11 = .ok (.iload_n 2, 1) := by decide +kernel
theorem dX8_number_12 : decode cX8_number 12 = .ok (.iconst 3, 1) := by decide +kernel
theorem dX8_number_13 : decode cX8_number 13 = .ok (.iadd, 1) := by decide +kernel
theorem dX8_number_14 : decode cX8_number 14 = .ok (.if_icmp .ge 43, 3) := by decide +kernel
theorem dX8_number_17 : decode cX8_number 17 = .ok (.aload_n 0, 1) := by decide +kernel
theorem dX8_number_18 : decode cX8_number 18 = .ok (.invokevirtual 147, 3) := by decide +kernel
theorem dX8_number_21 : decode cX8_number 21 = .ok (.bipush 48, 2) := by decide +kernel
theorem dX8_number_23 : decode cX8_number 23 = .ok (.bipush 57, 2) := by decide +kernel
theorem dX8_number_25 : decode cX8_number 25 = .ok (.invokestatic 29, 3) := by decide +kernel
theorem dX8_number_28 : decode cX8_number 28 = .ok (.ifCond .eq 29, 3) := by decide +kernel
theorem dX8_number_31 : decode cX8_number 31 = .ok (.bipush 10, 2) := by decide +kernel
theorem dX8_number_33 : decode cX8_number 33 = .ok (.iload_n 3, 1) := by decide +kernel
theorem dX8_number_34 : decode cX8_number 34 = .ok (.imul, 1) := by decide +kernel
theorem dX8_number_35 : decode cX8_number 35 = .ok (.aload_n 0, 1) := by decide +kernel
theorem dX8_number_36 : decode cX8_number 36 = .ok (.invokevirtual 147, 3) := by decide +kernel
theorem dX8_number_39 : decode cX8_number 39 = .ok (.iadd, 1) := by decide +kernel
theorem dX8_number_40 : decode cX8_number 40 = .ok (.bipush 48, 2) := by decide +kernel
theorem dX8_number_42 : decode cX8_number 42 = .ok (.isub, 1) := by decide +kernel
theorem dX8_number_43 : decode cX8_number 43 = .ok (.istore_n 3, 1) := by decide +kernel
theorem dX8_number_44 : decode cX8_number 44 = .ok (.aload_n 0, 1) := by decide +kernel
theorem dX8_number_45 : decode cX8_number 45 = .ok (.dup, 1) := by decide +kernel
theorem dX8_number_46 : decode cX8_number 46 = .ok (.getfield 144, 3) := by decide +kernel
theorem dX8_number_49 : decode cX8_number 49 = .ok (.iconst 1, 1) := by decide +kernel
theorem dX8_number_50 : decode cX8_number 50 = .ok (.iadd, 1) := by decide +kernel
theorem dX8_number_51 : decode cX8_number 51 = .ok (.putfield 144, 3) := by decide +kernel
theorem dX8_number_54 : decode cX8_number 54 = .ok (.goto (-47), 3) := by decide +kernel
theorem dX8_number_57 : decode cX8_number 57 = .ok (.aload_n 0, 1) := by decide +kernel
theorem dX8_number_58 : decode cX8_number 58 = .ok (.getfield 17, 3) := by decide +kernel
theorem dX8_number_61 : decode cX8_number 61 = .ok (.iload_n 1, 1) := by decide +kernel
theorem dX8_number_62 : decode cX8_number 62 = .ok (.iload_n 3, 1) := by decide +kernel
theorem dX8_number_63 : decode cX8_number 63 = .ok (.iastore, 1) := by decide +kernel
theorem dX8_number_64 : decode cX8_number 64 = .ok (.aload_n 0, 1) := by decide +kernel
theorem dX8_number_65 : decode cX8_number 65 = .ok (.getfield 144, 3) := by decide +kernel
theorem dX8_number_68 : decode cX8_number 68 = .ok (.iload_n 2, 1) := by decide +kernel
theorem dX8_number_69 : decode cX8_number 69 = .ok (.if_icmp .le 7, 3) := by decide +kernel
theorem dX8_number_72 : decode cX8_number 72 = .ok (.iconst 1, 1) := by decide +kernel
theorem dX8_number_73 : decode cX8_number 73 = .ok (.goto 4, 3) := by decide +kernel
theorem dX8_number_76 : decode cX8_number 76 = .ok (.iconst 0, 1) := by decide +kernel
theorem dX8_number_77 : decode cX8_number 77 = .ok (.ireturn, 1) := by decide +kernel
theorem dX8_takes_0 : decode cX8_takes 0 = .ok (.aload_n 0, 1) := by decide +kernel
theorem dX8_takes_1 : decode cX8_takes 1 = .ok (.invokevirtual 147, 3) := by decide +kernel
theorem dX8_takes_4 : decode cX8_takes 4 = .ok (.iload_n 1, 1) := by decide +kernel
theorem dX8_takes_5 : decode cX8_takes 5 = .ok (.if_icmp .eq 5, 3) := by decide +kernel
theorem dX8_takes_8 : decode cX8_takes 8 = .ok (.iconst 0, 1) := by decide +kernel
theorem dX8_takes_9 : decode cX8_takes 9 = .ok (.ireturn, 1) := by decide +kernel
theorem dX8_takes_10 : decode cX8_takes 10 = .ok (.aload_n 0, 1) := by decide +kernel
theorem dX8_takes_11 : decode cX8_takes 11 = .ok (.dup, 1) := by decide +kernel
theorem dX8_takes_12 : decode cX8_takes 12 = .ok (.getfield 144, 3) := by decide +kernel
theorem dX8_takes_15 : decode cX8_takes 15 = .ok (.iconst 1, 1) := by decide +kernel
theorem dX8_takes_16 : decode cX8_takes 16 = .ok (.iadd, 1) := by decide +kernel
theorem dX8_takes_17 : decode cX8_takes 17 = .ok (.putfield 144, 3) := by decide +kernel
theorem dX8_takes_20 : decode cX8_takes 20 = .ok (.iconst 1, 1) := by decide +kernel
theorem dX8_takes_21 : decode cX8_takes 21 = .ok (.ireturn, 1) := by decide +kernel
theorem dX8_order_0 : decode cX8_order 0 = .ok (.iload_n 1, 1) := by decide +kernel
theorem dX8_order_1 : decode cX8_order 1 = .ok (.bipush 115, 2) := by decide +kernel
theorem dX8_order_3 : decode cX8_order 3 = .ok (.if_icmp .ne 7, 3) := by decide +kernel
theorem dX8_order_6 : decode cX8_order 6 = .ok (.iconst 5, 1) := by decide +kernel
theorem dX8_order_7 : decode cX8_order 7 = .ok (.goto 31, 3) := by decide +kernel
theorem dX8_order_10 : decode cX8_order 10 = .ok (.iload_n 1, 1) := by decide +kernel
theorem dX8_order_11 : decode cX8_order 11 = .ok (.bipush 99, 2) := by decide +kernel
theorem dX8_order_13 : decode cX8_order 13 = .ok (.if_icmp .ne 8, 3) := by decide +kernel
theorem dX8_order_16 : decode cX8_order 16 = .ok (.bipush 6, 2) := by decide +kernel
theorem dX8_order_18 : decode cX8_order 18 = .ok (.goto 20, 3) := by decide +kernel
theorem dX8_order_21 : decode cX8_order 21 = .ok (.iload_n 1, 1) := by decide +kernel
theorem dX8_order_22 : decode cX8_order 22 = .ok (.bipush 102, 2) := by decide +kernel
theorem dX8_order_24 : decode cX8_order 24 = .ok (.if_icmp .eq 9, 3) := by decide +kernel
theorem dX8_order_27 : decode cX8_order 27 = .ok (.iload_n 1, 1) := by decide +kernel
theorem dX8_order_28 : decode cX8_order 28 = .ok (.bipush 100, 2) := by decide +kernel
theorem dX8_order_30 : decode cX8_order 30 = .ok (.if_icmp .ne 7, 3) := by decide +kernel
theorem dX8_order_33 : decode cX8_order 33 = .ok (.iconst 2, 1) := by decide +kernel
theorem dX8_order_34 : decode cX8_order 34 = .ok (.goto 4, 3) := by decide +kernel
theorem dX8_order_37 : decode cX8_order 37 = .ok (.iconst 0, 1) := by decide +kernel
theorem dX8_order_38 : decode cX8_order 38 = .ok (.istore_n 2, 1) := by decide +kernel
theorem dX8_order_39 : decode cX8_order 39 = .ok (.iload_n 2, 1) := by decide +kernel
theorem dX8_order_40 : decode cX8_order 40 = .ok (.ifCond .ne 5, 3) := by decide +kernel
theorem dX8_order_43 : decode cX8_order 43 = .ok (.iconst 0, 1) := by decide +kernel
theorem dX8_order_44 : decode cX8_order 44 = .ok (.ireturn, 1) := by decide +kernel
theorem dX8_order_45 : decode cX8_order 45 = .ok (.aload_n 0, 1) := by decide +kernel
theorem dX8_order_46 : decode cX8_order 46 = .ok (.dup, 1) := by decide +kernel
theorem dX8_order_47 : decode cX8_order 47 = .ok (.getfield 144, 3) := by decide +kernel
theorem dX8_order_50 : decode cX8_order 50 = .ok (.iconst 1, 1) := by decide +kernel
theorem dX8_order_51 : decode cX8_order 51 = .ok (.iadd, 1) := by decide +kernel
theorem dX8_order_52 : decode cX8_order 52 = .ok (.putfield 144, 3) := by decide +kernel
theorem dX8_order_55 : decode cX8_order 55 = .ok (.iconst 1, 1) := by decide +kernel
theorem dX8_order_56 : decode cX8_order 56 = .ok (.istore_n 3, 1) := by decide +kernel
theorem dX8_order_57 : decode cX8_order 57 = .ok (.iconst 0, 1) := by decide +kernel
theorem dX8_order_58 : decode cX8_order 58 = .ok (.istore 4, 2) := by decide +kernel
theorem dX8_order_60 : decode cX8_order 60 = .ok (.iload 4, 2) := by decide +kernel
theorem dX8_order_62 : decode cX8_order 62 = .ok (.iload_n 2, 1) := by decide +kernel
theorem dX8_order_63 : decode cX8_order 63 = .ok (.if_icmp .ge 42, 3) := by decide +kernel
theorem dX8_order_66 : decode cX8_order 66 = .ok (.iload_n 3, 1) := by decide +kernel
theorem dX8_order_67 : decode cX8_order 67 = .ok (.ifCond .eq 38, 3) := by decide +kernel
theorem dX8_order_70 : decode cX8_order 70 = .ok (.iload 4, 2) := by decide +kernel
theorem dX8_order_72 : decode cX8_order 72 = .ok (.ifCond .eq 12, 3) := by decide +kernel
theorem dX8_order_75 : decode cX8_order 75 = .ok (.aload_n 0, 1) := by decide +kernel
theorem dX8_order_76 : decode cX8_order 76 = .ok (.bipush 44, 2) := by decide +kernel
theorem dX8_order_78 : decode cX8_order 78 = .ok (.invokevirtual 150, 3) := by decide +kernel
theorem dX8_order_81 : decode cX8_order 81 = .ok (.ifCond .eq 16, 3) := by decide +kernel
theorem dX8_order_84 : decode cX8_order 84 = .ok (.aload_n 0, 1) := by decide +kernel
theorem dX8_order_85 : decode cX8_order 85 = .ok (.iload 4, 2) := by decide +kernel
theorem dX8_order_87 : decode cX8_order 87 = .ok (.invokevirtual 153, 3) := by decide +kernel
theorem dX8_order_90 : decode cX8_order 90 = .ok (.ifCond .eq 7, 3) := by decide +kernel
theorem dX8_order_93 : decode cX8_order 93 = .ok (.iconst 1, 1) := by decide +kernel
theorem dX8_order_94 : decode cX8_order 94 = .ok (.goto 4, 3) := by decide +kernel
theorem dX8_order_97 : decode cX8_order 97 = .ok (.iconst 0, 1) := by decide +kernel
theorem dX8_order_98 : decode cX8_order 98 = .ok (.istore_n 3, 1) := by decide +kernel
theorem dX8_order_99 : decode cX8_order 99 = .ok (.iinc 4 1, 3) := by decide +kernel
theorem dX8_order_102 : decode cX8_order 102 = .ok (.goto (-42), 3) := by decide +kernel
theorem dX8_order_105 : decode cX8_order 105 = .ok (.iload_n 3, 1) := by decide +kernel
theorem dX8_order_106 : decode cX8_order 106 = .ok (.ifCond .eq 16, 3) := by decide +kernel
theorem dX8_order_109 : decode cX8_order 109 = .ok (.aload_n 0, 1) := by decide +kernel
theorem dX8_order_110 : decode cX8_order 110 = .ok (.bipush 59, 2) := by decide +kernel
theorem dX8_order_112 : decode cX8_order 112 = .ok (.invokevirtual 150, 3) := by decide +kernel
theorem dX8_order_115 : decode cX8_order 115 = .ok (.ifCond .eq 7, 3) := by decide +kernel
theorem dX8_order_118 : decode cX8_order 118 = .ok (.iconst 1, 1) := by decide +kernel
theorem dX8_order_119 : decode cX8_order 119 = .ok (.goto 4, 3) := by decide +kernel
theorem dX8_order_122 : decode cX8_order 122 = .ok (.iconst 0, 1) := by decide +kernel
theorem dX8_order_123 : decode cX8_order 123 = .ok (.ireturn, 1) := by decide +kernel
theorem dX8_does_0 : decode cX8_does 0 = .ok (.iload_n 1, 1) := by decide +kernel
theorem dX8_does_1 : decode cX8_does 1 = .ok (.lookupswitch 128 #[(99, 70), (102, 111), (115, 35)], 35) := by decide +kernel
theorem dX8_does_36 : decode cX8_does 36 = .ok (.aload_n 0, 1) := by decide +kernel
theorem dX8_does_37 : decode cX8_does 37 = .ok (.aload_n 0, 1) := by decide +kernel
theorem dX8_does_38 : decode cX8_does 38 = .ok (.getfield 17, 3) := by decide +kernel
theorem dX8_does_41 : decode cX8_does 41 = .ok (.iconst 0, 1) := by decide +kernel
theorem dX8_does_42 : decode cX8_does 42 = .ok (.iaload, 1) := by decide +kernel
theorem dX8_does_43 : decode cX8_does 43 = .ok (.aload_n 0, 1) := by decide +kernel
theorem dX8_does_44 : decode cX8_does 44 = .ok (.getfield 17, 3) := by decide +kernel
theorem dX8_does_47 : decode cX8_does 47 = .ok (.iconst 1, 1) := by decide +kernel
theorem dX8_does_48 : decode cX8_does 48 = .ok (.iaload, 1) := by decide +kernel
theorem dX8_does_49 : decode cX8_does 49 = .ok (.aload_n 0, 1) := by decide +kernel
theorem dX8_does_50 : decode cX8_does 50 = .ok (.getfield 17, 3) := by decide +kernel
theorem dX8_does_53 : decode cX8_does 53 = .ok (.iconst 2, 1) := by decide +kernel
theorem dX8_does_54 : decode cX8_does 54 = .ok (.iaload, 1) := by decide +kernel
theorem dX8_does_55 : decode cX8_does 55 = .ok (.aload_n 0, 1) := by decide +kernel
theorem dX8_does_56 : decode cX8_does 56 = .ok (.getfield 17, 3) := by decide +kernel
theorem dX8_does_59 : decode cX8_does 59 = .ok (.iconst 3, 1) := by decide +kernel
theorem dX8_does_60 : decode cX8_does 60 = .ok (.iaload, 1) := by decide +kernel
theorem dX8_does_61 : decode cX8_does 61 = .ok (.aload_n 0, 1) := by decide +kernel
theorem dX8_does_62 : decode cX8_does 62 = .ok (.getfield 17, 3) := by decide +kernel
theorem dX8_does_65 : decode cX8_does 65 = .ok (.iconst 4, 1) := by decide +kernel
theorem dX8_does_66 : decode cX8_does 66 = .ok (.iaload, 1) := by decide +kernel
theorem dX8_does_67 : decode cX8_does 67 = .ok (.invokevirtual 115, 3) := by decide +kernel
theorem dX8_does_70 : decode cX8_does 70 = .ok (.ireturn, 1) := by decide +kernel
theorem dX8_does_71 : decode cX8_does 71 = .ok (.aload_n 0, 1) := by decide +kernel
theorem dX8_does_72 : decode cX8_does 72 = .ok (.aload_n 0, 1) := by decide +kernel
theorem dX8_does_73 : decode cX8_does 73 = .ok (.getfield 17, 3) := by decide +kernel
theorem dX8_does_76 : decode cX8_does 76 = .ok (.iconst 0, 1) := by decide +kernel
theorem dX8_does_77 : decode cX8_does 77 = .ok (.iaload, 1) := by decide +kernel
theorem dX8_does_78 : decode cX8_does 78 = .ok (.aload_n 0, 1) := by decide +kernel
theorem dX8_does_79 : decode cX8_does 79 = .ok (.getfield 17, 3) := by decide +kernel
theorem dX8_does_82 : decode cX8_does 82 = .ok (.iconst 1, 1) := by decide +kernel
theorem dX8_does_83 : decode cX8_does 83 = .ok (.iaload, 1) := by decide +kernel
theorem dX8_does_84 : decode cX8_does 84 = .ok (.aload_n 0, 1) := by decide +kernel
theorem dX8_does_85 : decode cX8_does 85 = .ok (.getfield 17, 3) := by decide +kernel
theorem dX8_does_88 : decode cX8_does 88 = .ok (.iconst 2, 1) := by decide +kernel
theorem dX8_does_89 : decode cX8_does 89 = .ok (.iaload, 1) := by decide +kernel
theorem dX8_does_90 : decode cX8_does 90 = .ok (.aload_n 0, 1) := by decide +kernel
theorem dX8_does_91 : decode cX8_does 91 = .ok (.getfield 17, 3) := by decide +kernel
theorem dX8_does_94 : decode cX8_does 94 = .ok (.iconst 3, 1) := by decide +kernel
theorem dX8_does_95 : decode cX8_does 95 = .ok (.iaload, 1) := by decide +kernel
theorem dX8_does_96 : decode cX8_does 96 = .ok (.aload_n 0, 1) := by decide +kernel
theorem dX8_does_97 : decode cX8_does 97 = .ok (.getfield 17, 3) := by decide +kernel
theorem dX8_does_100 : decode cX8_does 100 = .ok (.iconst 4, 1) := by decide +kernel
theorem dX8_does_101 : decode cX8_does 101 = .ok (.iaload, 1) := by decide +kernel
theorem dX8_does_102 : decode cX8_does 102 = .ok (.aload_n 0, 1) := by decide +kernel
theorem dX8_does_103 : decode cX8_does 103 = .ok (.getfield 17, 3) := by decide +kernel
theorem dX8_does_106 : decode cX8_does 106 = .ok (.iconst 5, 1) := by decide +kernel
theorem dX8_does_107 : decode cX8_does 107 = .ok (.iaload, 1) := by decide +kernel
theorem dX8_does_108 : decode cX8_does 108 = .ok (.invokevirtual 119, 3) := by decide +kernel
theorem dX8_does_111 : decode cX8_does 111 = .ok (.ireturn, 1) := by decide +kernel
theorem dX8_does_112 : decode cX8_does 112 = .ok (.aload_n 0, 1) := by decide +kernel
theorem dX8_does_113 : decode cX8_does 113 = .ok (.aload_n 0, 1) := by decide +kernel
theorem dX8_does_114 : decode cX8_does 114 = .ok (.getfield 17, 3) := by decide +kernel
theorem dX8_does_117 : decode cX8_does 117 = .ok (.iconst 0, 1) := by decide +kernel
theorem dX8_does_118 : decode cX8_does 118 = .ok (.iaload, 1) := by decide +kernel
theorem dX8_does_119 : decode cX8_does 119 = .ok (.aload_n 0, 1) := by decide +kernel
theorem dX8_does_120 : decode cX8_does 120 = .ok (.getfield 17, 3) := by decide +kernel
theorem dX8_does_123 : decode cX8_does 123 = .ok (.iconst 1, 1) := by decide +kernel
theorem dX8_does_124 : decode cX8_does 124 = .ok (.iaload, 1) := by decide +kernel
theorem dX8_does_125 : decode cX8_does 125 = .ok (.invokevirtual 123, 3) := by decide +kernel
theorem dX8_does_128 : decode cX8_does 128 = .ok (.ireturn, 1) := by decide +kernel
theorem dX8_does_129 : decode cX8_does 129 = .ok (.aload_n 0, 1) := by decide +kernel
theorem dX8_does_130 : decode cX8_does 130 = .ok (.aload_n 0, 1) := by decide +kernel
theorem dX8_does_131 : decode cX8_does 131 = .ok (.getfield 17, 3) := by decide +kernel
theorem dX8_does_134 : decode cX8_does 134 = .ok (.iconst 0, 1) := by decide +kernel
theorem dX8_does_135 : decode cX8_does 135 = .ok (.iaload, 1) := by decide +kernel
theorem dX8_does_136 : decode cX8_does 136 = .ok (.aload_n 0, 1) := by decide +kernel
theorem dX8_does_137 : decode cX8_does 137 = .ok (.getfield 17, 3) := by decide +kernel
theorem dX8_does_140 : decode cX8_does 140 = .ok (.iconst 1, 1) := by decide +kernel
theorem dX8_does_141 : decode cX8_does 141 = .ok (.iaload, 1) := by decide +kernel
theorem dX8_does_142 : decode cX8_does 142 = .ok (.invokevirtual 126, 3) := by decide +kernel
theorem dX8_does_145 : decode cX8_does 145 = .ok (.ireturn, 1) := by decide +kernel
theorem dX8_goesOn_0 : decode cX8_goesOn 0 = .ok (.aload_n 0, 1) := by decide +kernel
theorem dX8_goesOn_1 : decode cX8_goesOn 1 = .ok (.iconst 0, 1) := by decide +kernel
theorem dX8_goesOn_2 : decode cX8_goesOn 2 = .ok (.putfield 144, 3) := by decide +kernel
theorem dX8_goesOn_5 : decode cX8_goesOn 5 = .ok (.iconst 0, 1) := by decide +kernel
theorem dX8_goesOn_6 : decode cX8_goesOn 6 = .ok (.istore_n 1, 1) := by decide +kernel
theorem dX8_goesOn_7 : decode cX8_goesOn 7 = .ok (.aload_n 0, 1) := by decide +kernel
theorem dX8_goesOn_8 : decode cX8_goesOn 8 = .ok (.getfield 144, 3) := by decide +kernel
theorem dX8_goesOn_11 : decode cX8_goesOn 11 = .ok (.aload_n 0, 1) := by decide +kernel
theorem dX8_goesOn_12 : decode cX8_goesOn 12 = .ok (.getfield 141, 3) := by decide +kernel
theorem dX8_goesOn_15 : decode cX8_goesOn 15 = .ok (.if_icmp .ge 77, 3) := by decide +kernel
theorem dX8_goesOn_18 : decode cX8_goesOn 18 = .ok (.aload_n 0, 1) := by decide +kernel
theorem dX8_goesOn_19 : decode cX8_goesOn 19 = .ok (.getfield 144, 3) := by decide +kernel
theorem dX8_goesOn_22 : decode cX8_goesOn 22 = .ok (.istore_n 2, 1) := by decide +kernel
theorem dX8_goesOn_23 : decode cX8_goesOn 23 = .ok (.aload_n 0, 1) := by decide +kernel
theorem dX8_goesOn_24 : decode cX8_goesOn 24 = .ok (.invokevirtual 147, 3) := by decide +kernel
theorem dX8_goesOn_27 : decode cX8_goesOn 27 = .ok (.istore_n 3, 1) := by decide +kernel
theorem dX8_goesOn_28 : decode cX8_goesOn 28 = .ok (.aload_n 0, 1) := by decide +kernel
theorem dX8_goesOn_29 : decode cX8_goesOn 29 = .ok (.iload_n 3, 1) := by decide +kernel
theorem dX8_goesOn_30 : decode cX8_goesOn 30 = .ok (.invokevirtual 156, 3) := by decide +kernel
theorem dX8_goesOn_33 : decode cX8_goesOn 33 = .ok (.ifCond .ne 23, 3) := by decide +kernel
theorem dX8_goesOn_36 : decode cX8_goesOn 36 = .ok (.aload_n 0, 1) := by decide +kernel
theorem dX8_goesOn_37 : decode cX8_goesOn 37 = .ok (.iconst 1, 1) := by decide +kernel
theorem dX8_goesOn_38 : decode cX8_goesOn 38 = .ok (.putfield 159, 3) := by decide +kernel
theorem dX8_goesOn_41 : decode cX8_goesOn 41 = .ok (.aload_n 0, 1) := by decide +kernel
theorem dX8_goesOn_42 : decode cX8_goesOn 42 = .ok (.aload_n 0, 1) := by decide +kernel
theorem dX8_goesOn_43 : decode cX8_goesOn 43 = .ok (.getfield 144, 3) := by decide +kernel
theorem dX8_goesOn_46 : decode cX8_goesOn 46 = .ok (.iload_n 2, 1) := by decide +kernel
theorem dX8_goesOn_47 : decode cX8_goesOn 47 = .ok (.isub, 1) := by decide +kernel
theorem dX8_goesOn_48 : decode cX8_goesOn 48 = .ok (.putfield 162, 3) := by decide +kernel
theorem dX8_goesOn_51 : decode cX8_goesOn 51 = .ok (.iload_n 2, 1) := by decide +kernel
theorem dX8_goesOn_52 : decode cX8_goesOn 52 = .ok (.ineg, 1) := by decide +kernel
theorem dX8_goesOn_53 : decode cX8_goesOn 53 = .ok (.iconst 1, 1) := by decide +kernel
theorem dX8_goesOn_54 : decode cX8_goesOn 54 = .ok (.isub, 1) := by decide +kernel
theorem dX8_goesOn_55 : decode cX8_goesOn 55 = .ok (.ireturn, 1) := by decide +kernel
theorem dX8_goesOn_56 : decode cX8_goesOn 56 = .ok (.aload_n 0, 1) := by decide +kernel
theorem dX8_goesOn_57 : decode cX8_goesOn 57 = .ok (.iload_n 3, 1) := by decide +kernel
theorem dX8_goesOn_58 : decode cX8_goesOn 58 = .ok (.invokevirtual 165, 3) := by decide +kernel
theorem dX8_goesOn_61 : decode cX8_goesOn 61 = .ok (.istore 4, 2) := by decide +kernel
theorem dX8_goesOn_63 : decode cX8_goesOn 63 = .ok (.iload 4, 2) := by decide +kernel
theorem dX8_goesOn_65 : decode cX8_goesOn 65 = .ok (.ldc 24, 2) := by decide +kernel
theorem dX8_goesOn_67 : decode cX8_goesOn 67 = .ok (.if_icmp .gt 19, 3) := by decide +kernel
theorem dX8_goesOn_70 : decode cX8_goesOn 70 = .ok (.aload_n 0, 1) := by decide +kernel
theorem dX8_goesOn_71 : decode cX8_goesOn 71 = .ok (.iconst 2, 1) := by decide +kernel
theorem dX8_goesOn_72 : decode cX8_goesOn 72 = .ok (.putfield 159, 3) := by decide +kernel
theorem dX8_goesOn_75 : decode cX8_goesOn 75 = .ok (.aload_n 0, 1) := by decide +kernel
theorem dX8_goesOn_76 : decode cX8_goesOn 76 = .ok (.iload 4, 2) := by decide +kernel
theorem dX8_goesOn_78 : decode cX8_goesOn 78 = .ok (.putfield 162, 3) := by decide +kernel
theorem dX8_goesOn_81 : decode cX8_goesOn 81 = .ok (.iload_n 2, 1) := by decide +kernel
theorem dX8_goesOn_82 : decode cX8_goesOn 82 = .ok (.ineg, 1) := by decide +kernel
theorem dX8_goesOn_83 : decode cX8_goesOn 83 = .ok (.iconst 1, 1) := by decide +kernel
theorem dX8_goesOn_84 : decode cX8_goesOn 84 = .ok (.isub, 1) := by decide +kernel
theorem dX8_goesOn_85 : decode cX8_goesOn 85 = .ok (.ireturn, 1) := by decide +kernel
theorem dX8_goesOn_86 : decode cX8_goesOn 86 = .ok (.iinc 1 1, 3) := by decide +kernel
theorem dX8_goesOn_89 : decode cX8_goesOn 89 = .ok (.goto (-82), 3) := by decide +kernel
theorem dX8_goesOn_92 : decode cX8_goesOn 92 = .ok (.iload_n 1, 1) := by decide +kernel
theorem dX8_goesOn_93 : decode cX8_goesOn 93 = .ok (.ireturn, 1) := by decide +kernel
theorem dX8_fault_0 : decode cX8_fault 0 = .ok (.iload_n 1, 1) := by decide +kernel
theorem dX8_fault_1 : decode cX8_fault 1 = .ok (.iconst 0, 1) := by decide +kernel
theorem dX8_fault_2 : decode cX8_fault 2 = .ok (.iconst 2, 1) := by decide +kernel
theorem dX8_fault_3 : decode cX8_fault 3 = .ok (.invokestatic 29, 3) := by decide +kernel
theorem dX8_fault_6 : decode cX8_fault 6 = .ok (.ifCond .ne 6, 3) := by decide +kernel
theorem dX8_fault_9 : decode cX8_fault 9 = .ok (.ldc 24, 2) := by decide +kernel
theorem dX8_fault_11 : decode cX8_fault 11 = .ok (.ireturn, 1) := by decide +kernel
theorem dX8_fault_12 : decode cX8_fault 12 = .ok (.aload_n 0, 1) := by decide +kernel
theorem dX8_fault_13 : decode cX8_fault 13 = .ok (.invokevirtual 109, 3) := by decide +kernel
theorem dX8_fault_16 : decode cX8_fault 16 = .ok (.aload_n 0, 1) := by decide +kernel
theorem dX8_fault_17 : decode cX8_fault 17 = .ok (.invokevirtual 168, 3) := by decide +kernel
theorem dX8_fault_20 : decode cX8_fault 20 = .ok (.istore_n 2, 1) := by decide +kernel
theorem dX8_fault_21 : decode cX8_fault 21 = .ok (.aload_n 0, 1) := by decide +kernel
theorem dX8_fault_22 : decode cX8_fault 22 = .ok (.bipush 6, 2) := by decide +kernel
theorem dX8_fault_24 : decode cX8_fault 24 = .ok (.iconst 0, 1) := by decide +kernel
theorem dX8_fault_25 : decode cX8_fault 25 = .ok (.invokevirtual 20, 3) := by decide +kernel
theorem dX8_fault_28 : decode cX8_fault 28 = .ok (.iload_n 2, 1) := by decide +kernel
theorem dX8_fault_29 : decode cX8_fault 29 = .ok (.ifCond .lt 8, 3) := by decide +kernel
theorem dX8_fault_32 : decode cX8_fault 32 = .ok (.ldc 130, 2) := by decide +kernel
theorem dX8_fault_34 : decode cX8_fault 34 = .ok (.goto 30, 3) := by decide +kernel
theorem dX8_fault_37 : decode cX8_fault 37 = .ok (.iload_n 1, 1) := by decide +kernel
theorem dX8_fault_38 : decode cX8_fault 38 = .ok (.ifCond .ne 10, 3) := by decide +kernel
theorem dX8_fault_41 : decode cX8_fault 41 = .ok (.iload_n 2, 1) := by decide +kernel
theorem dX8_fault_42 : decode cX8_fault 42 = .ok (.ineg, 1) := by decide +kernel
theorem dX8_fault_43 : decode cX8_fault 43 = .ok (.iconst 1, 1) := by decide +kernel
theorem dX8_fault_44 : decode cX8_fault 44 = .ok (.isub, 1) := by decide +kernel
theorem dX8_fault_45 : decode cX8_fault 45 = .ok (.goto 19, 3) := by decide +kernel
theorem dX8_fault_48 : decode cX8_fault 48 = .ok (.iload_n 1, 1) := by decide +kernel
theorem dX8_fault_49 : decode cX8_fault 49 = .ok (.iconst 1, 1) := by decide +kernel
theorem dX8_fault_50 : decode cX8_fault 50 = .ok (.if_icmp .ne 10, 3) := by decide +kernel
theorem dX8_fault_53 : decode cX8_fault 53 = .ok (.aload_n 0, 1) := by decide +kernel
theorem dX8_fault_54 : decode cX8_fault 54 = .ok (.getfield 159, 3) := by decide +kernel
theorem dX8_fault_57 : decode cX8_fault 57 = .ok (.goto 7, 3) := by decide +kernel
theorem dX8_fault_60 : decode cX8_fault 60 = .ok (.aload_n 0, 1) := by decide +kernel
theorem dX8_fault_61 : decode cX8_fault 61 = .ok (.getfield 162, 3) := by decide +kernel
theorem dX8_fault_64 : decode cX8_fault 64 = .ok (.ireturn, 1) := by decide +kernel
theorem dX8_play_0 : decode cX8_play 0 = .ok (.aload_n 0, 1) := by decide +kernel
theorem dX8_play_1 : decode cX8_play 1 = .ok (.invokevirtual 109, 3) := by decide +kernel
theorem dX8_play_4 : decode cX8_play 4 = .ok (.aload_n 0, 1) := by decide +kernel
theorem dX8_play_5 : decode cX8_play 5 = .ok (.invokevirtual 168, 3) := by decide +kernel
theorem dX8_play_8 : decode cX8_play 8 = .ok (.istore_n 1, 1) := by decide +kernel
theorem dX8_play_9 : decode cX8_play 9 = .ok (.iload_n 1, 1) := by decide +kernel
theorem dX8_play_10 : decode cX8_play 10 = .ok (.ifCond .ge 13, 3) := by decide +kernel
theorem dX8_play_13 : decode cX8_play 13 = .ok (.aload_n 0, 1) := by decide +kernel
theorem dX8_play_14 : decode cX8_play 14 = .ok (.bipush 6, 2) := by decide +kernel
theorem dX8_play_16 : decode cX8_play 16 = .ok (.iconst 0, 1) := by decide +kernel
theorem dX8_play_17 : decode cX8_play 17 = .ok (.invokevirtual 20, 3) := by decide +kernel
theorem dX8_play_20 : decode cX8_play 20 = .ok (.ldc 101, 2) := by decide +kernel
theorem dX8_play_22 : decode cX8_play 22 = .ok (.ireturn, 1) := by decide +kernel
theorem dX8_play_23 : decode cX8_play 23 = .ok (.aload_n 0, 1) := by decide +kernel
theorem dX8_play_24 : decode cX8_play 24 = .ok (.iload_n 1, 1) := by decide +kernel
theorem dX8_play_25 : decode cX8_play 25 = .ok (.invokevirtual 112, 3) := by decide +kernel
theorem dX8_play_28 : decode cX8_play 28 = .ok (.ireturn, 1) := by decide +kernel
theorem dJxf58ca_isNaN_12338_0 : decode cJxf58ca_isNaN_12338 0 = .ok (.fload_n 0, 1) := by decide +kernel
theorem dJxf58ca_isNaN_12338_1 : decode cJxf58ca_isNaN_12338 1 = .ok (.fload_n 0, 1) := by decide +kernel
theorem dJxf58ca_isNaN_12338_2 : decode cJxf58ca_isNaN_12338 2 = .ok (.fcmp .l, 1) := by decide +kernel
theorem dJxf58ca_isNaN_12338_3 : decode cJxf58ca_isNaN_12338 3 = .ok (.ifCond .eq 7, 3) := by decide +kernel
theorem dJxf58ca_isNaN_12338_6 : decode cJxf58ca_isNaN_12338 6 = .ok (.iconst 1, 1) := by decide +kernel
theorem dJxf58ca_isNaN_12338_7 : decode cJxf58ca_isNaN_12338 7 = .ok (.goto 4, 3) := by decide +kernel
theorem dJxf58ca_isNaN_12338_10 : decode cJxf58ca_isNaN_12338 10 = .ok (.iconst 0, 1) := by decide +kernel
theorem dJxf58ca_isNaN_12338_11 : decode cJxf58ca_isNaN_12338 11 = .ok (.ireturn, 1) := by decide +kernel
theorem dJxf58ca_floatToIntBits_5c35a_0 : decode cJxf58ca_floatToIntBits_5c35a 0 = .ok (.fload_n 0, 1) := by decide +kernel
theorem dJxf58ca_floatToIntBits_5c35a_1 : decode cJxf58ca_floatToIntBits_5c35a 1 = .ok (.invokestatic 59, 3) := by decide +kernel
theorem dJxf58ca_floatToIntBits_5c35a_4 : decode cJxf58ca_floatToIntBits_5c35a 4 = .ok (.ifCond .ne 8, 3) := by decide +kernel
theorem dJxf58ca_floatToIntBits_5c35a_7 : decode cJxf58ca_floatToIntBits_5c35a 7 = .ok (.fload_n 0, 1) := by decide +kernel
theorem dJxf58ca_floatToIntBits_5c35a_8 : decode cJxf58ca_floatToIntBits_5c35a 8 = .ok (.invokestatic 74, 3) := by decide +kernel
theorem dJxf58ca_floatToIntBits_5c35a_11 : decode cJxf58ca_floatToIntBits_5c35a 11 = .ok (.ireturn, 1) := by decide +kernel
theorem dJxf58ca_floatToIntBits_5c35a_12 : decode cJxf58ca_floatToIntBits_5c35a 12 = .ok (.ldc 77, 2) := by decide +kernel
theorem dJxf58ca_floatToIntBits_5c35a_14 : decode cJxf58ca_floatToIntBits_5c35a 14 = .ok (.ireturn, 1) := by decide +kernel
theorem dJ13_bitCount_95d88_0 : decode cJ13_bitCount_95d88 0 = .ok (.lload_n 0, 1) := by decide +kernel
theorem dJ13_bitCount_95d88_1 : decode cJ13_bitCount_95d88 1 = .ok (.lload_n 0, 1) := by decide +kernel
theorem dJ13_bitCount_95d88_2 : decode cJ13_bitCount_95d88 2 = .ok (.iconst 1, 1) := by decide +kernel
theorem dJ13_bitCount_95d88_3 : decode cJ13_bitCount_95d88 3 = .ok (.lushr, 1) := by decide +kernel
theorem dJ13_bitCount_95d88_4 : decode cJ13_bitCount_95d88 4 = .ok (.ldc2_w 314, 3) := by decide +kernel
theorem dJ13_bitCount_95d88_7 : decode cJ13_bitCount_95d88 7 = .ok (.land, 1) := by decide +kernel
theorem dJ13_bitCount_95d88_8 : decode cJ13_bitCount_95d88 8 = .ok (.lsub, 1) := by decide +kernel
theorem dJ13_bitCount_95d88_9 : decode cJ13_bitCount_95d88 9 = .ok (.lstore_n 0, 1) := by decide +kernel
theorem dJ13_bitCount_95d88_10 : decode cJ13_bitCount_95d88 10 = .ok (.lload_n 0, 1) := by decide +kernel
theorem dJ13_bitCount_95d88_11 : decode cJ13_bitCount_95d88 11 = .ok (.ldc2_w 316, 3) := by decide +kernel
theorem dJ13_bitCount_95d88_14 : decode cJ13_bitCount_95d88 14 = .ok (.land, 1) := by decide +kernel
theorem dJ13_bitCount_95d88_15 : decode cJ13_bitCount_95d88 15 = .ok (.lload_n 0, 1) := by decide +kernel
theorem dJ13_bitCount_95d88_16 : decode cJ13_bitCount_95d88 16 = .ok (.iconst 2, 1) := by decide +kernel
theorem dJ13_bitCount_95d88_17 : decode cJ13_bitCount_95d88 17 = .ok (.lushr, 1) := by decide +kernel
theorem dJ13_bitCount_95d88_18 : decode cJ13_bitCount_95d88 18 = .ok (.ldc2_w 316, 3) := by decide +kernel
theorem dJ13_bitCount_95d88_21 : decode cJ13_bitCount_95d88 21 = .ok (.land, 1) := by decide +kernel
theorem dJ13_bitCount_95d88_22 : decode cJ13_bitCount_95d88 22 = .ok (.ladd, 1) := by decide +kernel
theorem dJ13_bitCount_95d88_23 : decode cJ13_bitCount_95d88 23 = .ok (.lstore_n 0, 1) := by decide +kernel
theorem dJ13_bitCount_95d88_24 : decode cJ13_bitCount_95d88 24 = .ok (.lload_n 0, 1) := by decide +kernel
theorem dJ13_bitCount_95d88_25 : decode cJ13_bitCount_95d88 25 = .ok (.lload_n 0, 1) := by decide +kernel
theorem dJ13_bitCount_95d88_26 : decode cJ13_bitCount_95d88 26 = .ok (.iconst 4, 1) := by decide +kernel
theorem dJ13_bitCount_95d88_27 : decode cJ13_bitCount_95d88 27 = .ok (.lushr, 1) := by decide +kernel
theorem dJ13_bitCount_95d88_28 : decode cJ13_bitCount_95d88 28 = .ok (.ladd, 1) := by decide +kernel
theorem dJ13_bitCount_95d88_29 : decode cJ13_bitCount_95d88 29 = .ok (.ldc2_w 318, 3) := by decide +kernel
theorem dJ13_bitCount_95d88_32 : decode cJ13_bitCount_95d88 32 = .ok (.land, 1) := by decide +kernel
theorem dJ13_bitCount_95d88_33 : decode cJ13_bitCount_95d88 33 = .ok (.lstore_n 0, 1) := by decide +kernel
theorem dJ13_bitCount_95d88_34 : decode cJ13_bitCount_95d88 34 = .ok (.lload_n 0, 1) := by decide +kernel
theorem dJ13_bitCount_95d88_35 : decode cJ13_bitCount_95d88 35 = .ok (.lload_n 0, 1) := by decide +kernel
theorem dJ13_bitCount_95d88_36 : decode cJ13_bitCount_95d88 36 = .ok (.bipush 8, 2) := by decide +kernel
theorem dJ13_bitCount_95d88_38 : decode cJ13_bitCount_95d88 38 = .ok (.lushr, 1) := by decide +kernel
theorem dJ13_bitCount_95d88_39 : decode cJ13_bitCount_95d88 39 = .ok (.ladd, 1) := by decide +kernel
theorem dJ13_bitCount_95d88_40 : decode cJ13_bitCount_95d88 40 = .ok (.lstore_n 0, 1) := by decide +kernel
theorem dJ13_bitCount_95d88_41 : decode cJ13_bitCount_95d88 41 = .ok (.lload_n 0, 1) := by decide +kernel
theorem dJ13_bitCount_95d88_42 : decode cJ13_bitCount_95d88 42 = .ok (.lload_n 0, 1) := by decide +kernel
theorem dJ13_bitCount_95d88_43 : decode cJ13_bitCount_95d88 43 = .ok (.bipush 16, 2) := by decide +kernel
theorem dJ13_bitCount_95d88_45 : decode cJ13_bitCount_95d88 45 = .ok (.lushr, 1) := by decide +kernel
theorem dJ13_bitCount_95d88_46 : decode cJ13_bitCount_95d88 46 = .ok (.ladd, 1) := by decide +kernel
theorem dJ13_bitCount_95d88_47 : decode cJ13_bitCount_95d88 47 = .ok (.lstore_n 0, 1) := by decide +kernel
theorem dJ13_bitCount_95d88_48 : decode cJ13_bitCount_95d88 48 = .ok (.lload_n 0, 1) := by decide +kernel
theorem dJ13_bitCount_95d88_49 : decode cJ13_bitCount_95d88 49 = .ok (.lload_n 0, 1) := by decide +kernel
theorem dJ13_bitCount_95d88_50 : decode cJ13_bitCount_95d88 50 = .ok (.bipush 32, 2) := by decide +kernel
theorem dJ13_bitCount_95d88_52 : decode cJ13_bitCount_95d88 52 = .ok (.lushr, 1) := by decide +kernel
theorem dJ13_bitCount_95d88_53 : decode cJ13_bitCount_95d88 53 = .ok (.ladd, 1) := by decide +kernel
theorem dJ13_bitCount_95d88_54 : decode cJ13_bitCount_95d88 54 = .ok (.lstore_n 0, 1) := by decide +kernel
theorem dJ13_bitCount_95d88_55 : decode cJ13_bitCount_95d88 55 = .ok (.lload_n 0, 1) := by decide +kernel
theorem dJ13_bitCount_95d88_56 : decode cJ13_bitCount_95d88 56 = .ok (.l2i, 1) := by decide +kernel
theorem dJ13_bitCount_95d88_57 : decode cJ13_bitCount_95d88 57 = .ok (.bipush 127, 2) := by decide +kernel
theorem dJ13_bitCount_95d88_59 : decode cJ13_bitCount_95d88 59 = .ok (.iand, 1) := by decide +kernel
theorem dJ13_bitCount_95d88_60 : decode cJ13_bitCount_95d88 60 = .ok (.ireturn, 1) := by decide +kernel
theorem dJ9_max_7cf53_0 : decode cJ9_max_7cf53 0 = .ok (.iload_n 0, 1) := by decide +kernel
theorem dJ9_max_7cf53_1 : decode cJ9_max_7cf53 1 = .ok (.iload_n 1, 1) := by decide +kernel
theorem dJ9_max_7cf53_2 : decode cJ9_max_7cf53 2 = .ok (.if_icmp .lt 7, 3) := by decide +kernel
theorem dJ9_max_7cf53_5 : decode cJ9_max_7cf53 5 = .ok (.iload_n 0, 1) := by decide +kernel
theorem dJ9_max_7cf53_6 : decode cJ9_max_7cf53 6 = .ok (.goto 4, 3) := by decide +kernel
theorem dJ9_max_7cf53_9 : decode cJ9_max_7cf53 9 = .ok (.iload_n 1, 1) := by decide +kernel
theorem dJ9_max_7cf53_10 : decode cJ9_max_7cf53 10 = .ok (.ireturn, 1) := by decide +kernel
theorem dJ9_min_7cf53_0 : decode cJ9_min_7cf53 0 = .ok (.iload_n 0, 1) := by decide +kernel
theorem dJ9_min_7cf53_1 : decode cJ9_min_7cf53 1 = .ok (.iload_n 1, 1) := by decide +kernel
theorem dJ9_min_7cf53_2 : decode cJ9_min_7cf53 2 = .ok (.if_icmp .gt 7, 3) := by decide +kernel
theorem dJ9_min_7cf53_5 : decode cJ9_min_7cf53 5 = .ok (.iload_n 0, 1) := by decide +kernel
theorem dJ9_min_7cf53_6 : decode cJ9_min_7cf53 6 = .ok (.goto 4, 3) := by decide +kernel
theorem dJ9_min_7cf53_9 : decode cJ9_min_7cf53 9 = .ok (.iload_n 1, 1) := by decide +kernel
theorem dJ9_min_7cf53_10 : decode cJ9_min_7cf53 10 = .ok (.ireturn, 1) := by decide +kernel
end
section
theorem dL_law_0 : decode cL_law 0 = .ok (.new 7, 3) := by decide +kernel
theorem dL_law_3 : decode cL_law 3 = .ok (.dup, 1) := by decide +kernel
theorem dL_law_4 : decode cL_law 4 = .ok (.invokespecial 9, 3) := by decide +kernel
theorem dL_law_7 : decode cL_law 7 = .ok (.astore_n 1, 1) := by decide +kernel
theorem dL_law_8 : decode cL_law 8 = .ok (.new 10, 3) := by decide +kernel
theorem dL_law_11 : decode cL_law 11 = .ok (.dup, 1) := by decide +kernel
theorem dL_law_12 : decode cL_law 12 = .ok (.invokespecial 12, 3) := by decide +kernel
theorem dL_law_15 : decode cL_law 15 = .ok (.astore_n 2, 1) := by decide +kernel
theorem dL_law_16 : decode cL_law 16 = .ok (.iconst 0, 1) := by decide +kernel
theorem dL_law_17 : decode cL_law 17 = .ok (.istore_n 3, 1) := by decide +kernel
theorem dL_law_18 : decode cL_law 18 = .ok (.iload_n 3, 1) := by decide +kernel
theorem dL_law_19 : decode cL_law 19 = .ok (.aload_n 0, 1) := by decide +kernel
theorem dL_law_20 : decode cL_law 20 = .ok (.arraylength, 1) := by decide +kernel
theorem dL_law_21 : decode cL_law 21 = .ok (.bipush 7, 2) := by decide +kernel
theorem dL_law_23 : decode cL_law 23 = .ok (.isub, 1) := by decide +kernel
theorem dL_law_24 : decode cL_law 24 = .ok (.if_icmp .gt 796, 3) := by decide +kernel
theorem dL_law_27 : decode cL_law 27 = .ok (.aload_n 0, 1) := by decide +kernel
theorem dL_law_28 : decode cL_law 28 = .ok (.iload_n 3, 1) := by decide +kernel
theorem dL_law_29 : decode cL_law 29 = .ok (.iaload, 1) := by decide +kernel
theorem dL_law_30 : decode cL_law 30 = .ok (.bipush 31, 2) := by decide +kernel
theorem dL_law_32 : decode cL_law 32 = .ok (.iand, 1) := by decide +kernel
theorem dL_law_33 : decode cL_law 33 = .ok (.tableswitch 781 0 21 #[103, 146, 209, 284, 317, 350, 373, 396, 429, 462, 505, 538, 581, 604, 627, 650, 673, 696, 709, 732, 745, 768], 103) := by decide +kernel
theorem dL_law_136 : decode cL_law 136 = .ok (.aload_n 1, 1) := by decide +kernel
theorem dL_law_137 : decode cL_law 137 = .ok (.aload_n 0, 1) := by decide +kernel
theorem dL_law_138 : decode cL_law 138 = .ok (.iload_n 3, 1) := by decide +kernel
theorem dL_law_139 : decode cL_law 139 = .ok (.iconst 1, 1) := by decide +kernel
theorem dL_law_140 : decode cL_law 140 = .ok (.iadd, 1) := by decide +kernel
theorem dL_law_141 : decode cL_law 141 = .ok (.iaload, 1) := by decide +kernel
theorem dL_law_142 : decode cL_law 142 = .ok (.aload_n 0, 1) := by decide +kernel
theorem dL_law_143 : decode cL_law 143 = .ok (.iload_n 3, 1) := by decide +kernel
theorem dL_law_144 : decode cL_law 144 = .ok (.iconst 2, 1) := by decide +kernel
theorem dL_law_145 : decode cL_law 145 = .ok (.iadd, 1) := by decide +kernel
theorem dL_law_146 : decode cL_law 146 = .ok (.iaload, 1) := by decide +kernel
theorem dL_law_147 : decode cL_law 147 = .ok (.aload_n 0, 1) := by decide +kernel
theorem dL_law_148 : decode cL_law 148 = .ok (.iload_n 3, 1) := by decide +kernel
theorem dL_law_149 : decode cL_law 149 = .ok (.iconst 3, 1) := by decide +kernel
theorem dL_law_150 : decode cL_law 150 = .ok (.iadd, 1) := by decide +kernel
theorem dL_law_151 : decode cL_law 151 = .ok (.iaload, 1) := by decide +kernel
theorem dL_law_152 : decode cL_law 152 = .ok (.invokevirtual 13, 3) := by decide +kernel
theorem dL_law_155 : decode cL_law 155 = .ok (.aload_n 2, 1) := by decide +kernel
theorem dL_law_156 : decode cL_law 156 = .ok (.aload_n 0, 1) := by decide +kernel
theorem dL_law_157 : decode cL_law 157 = .ok (.iload_n 3, 1) := by decide +kernel
theorem dL_law_158 : decode cL_law 158 = .ok (.iconst 1, 1) := by decide +kernel
theorem dL_law_159 : decode cL_law 159 = .ok (.iadd, 1) := by decide +kernel
theorem dL_law_160 : decode cL_law 160 = .ok (.iaload, 1) := by decide +kernel
theorem dL_law_161 : decode cL_law 161 = .ok (.aload_n 0, 1) := by decide +kernel
theorem dL_law_162 : decode cL_law 162 = .ok (.iload_n 3, 1) := by decide +kernel
theorem dL_law_163 : decode cL_law 163 = .ok (.iconst 2, 1) := by decide +kernel
theorem dL_law_164 : decode cL_law 164 = .ok (.iadd, 1) := by decide +kernel
theorem dL_law_165 : decode cL_law 165 = .ok (.iaload, 1) := by decide +kernel
theorem dL_law_166 : decode cL_law 166 = .ok (.aload_n 0, 1) := by decide +kernel
theorem dL_law_167 : decode cL_law 167 = .ok (.iload_n 3, 1) := by decide +kernel
theorem dL_law_168 : decode cL_law 168 = .ok (.iconst 3, 1) := by decide +kernel
theorem dL_law_169 : decode cL_law 169 = .ok (.iadd, 1) := by decide +kernel
theorem dL_law_170 : decode cL_law 170 = .ok (.iaload, 1) := by decide +kernel
theorem dL_law_171 : decode cL_law 171 = .ok (.invokevirtual 17, 3) := by decide +kernel
theorem dL_law_174 : decode cL_law 174 = .ok (.if_icmp .eq 640, 3) := by decide +kernel
theorem dL_law_177 : decode cL_law 177 = .ok (.iconst 0, 1) := by decide +kernel
theorem dL_law_178 : decode cL_law 178 = .ok (.ireturn, 1) := by decide +kernel
theorem dL_law_179 : decode cL_law 179 = .ok (.aload_n 1, 1) := by decide +kernel
theorem dL_law_180 : decode cL_law 180 = .ok (.aload_n 0, 1) := by decide +kernel
theorem dL_law_181 : decode cL_law 181 = .ok (.iload_n 3, 1) := by decide +kernel
theorem dL_law_182 : decode cL_law 182 = .ok (.iconst 1, 1) := by decide +kernel
theorem dL_law_183 : decode cL_law 183 = .ok (.iadd, 1) := by decide +kernel
theorem dL_law_184 : decode cL_law 184 = .ok (.iaload, 1) := by decide +kernel
theorem dL_law_185 : decode cL_law 185 = .ok (.aload_n 0, 1) := by decide +kernel
theorem dL_law_186 : decode cL_law 186 = .ok (.iload_n 3, 1) := by decide +kernel
theorem dL_law_187 : decode cL_law 187 = .ok (.iconst 2, 1) := by decide +kernel
theorem dL_law_188 : decode cL_law 188 = .ok (.iadd, 1) := by decide +kernel
theorem dL_law_189 : decode cL_law 189 = .ok (.iaload, 1) := by decide +kernel
theorem dL_law_190 : decode cL_law 190 = .ok (.aload_n 0, 1) := by decide +kernel
theorem dL_law_191 : decode cL_law 191 = .ok (.iload_n 3, 1) := by decide +kernel
theorem dL_law_192 : decode cL_law 192 = .ok (.iconst 3, 1) := by decide +kernel
theorem dL_law_193 : decode cL_law 193 = .ok (.iadd, 1) := by decide +kernel
theorem dL_law_194 : decode cL_law 194 = .ok (.iaload, 1) := by decide +kernel
theorem dL_law_195 : decode cL_law 195 = .ok (.aload_n 0, 1) := by decide +kernel
theorem dL_law_196 : decode cL_law 196 = .ok (.iload_n 3, 1) := by decide +kernel
theorem dL_law_197 : decode cL_law 197 = .ok (.iconst 4, 1) := by decide +kernel
theorem dL_law_198 : decode cL_law 198 = .ok (.iadd, 1) := by decide +kernel
theorem dL_law_199 : decode cL_law 199 = .ok (.iaload, 1) := by decide +kernel
theorem dL_law_200 : decode cL_law 200 = .ok (.aload_n 0, 1) := by decide +kernel
theorem dL_law_201 : decode cL_law 201 = .ok (.iload_n 3, 1) := by decide +kernel
theorem dL_law_202 : decode cL_law 202 = .ok (.iconst 5, 1) := by decide +kernel
theorem dL_law_203 : decode cL_law 203 = .ok (.iadd, 1) := by decide +kernel
theorem dL_law_204 : decode cL_law 204 = .ok (.iaload, 1) := by decide +kernel
theorem dL_law_205 : decode cL_law 205 = .ok (.invokevirtual 18, 3) := by decide +kernel
theorem dL_law_208 : decode cL_law 208 = .ok (.aload_n 2, 1) := by decide +kernel
theorem dL_law_209 : decode cL_law 209 = .ok (.aload_n 0, 1) := by decide +kernel
theorem dL_law_210 : decode cL_law 210 = .ok (.iload_n 3, 1) := by decide +kernel
theorem dL_law_211 : decode cL_law 211 = .ok (.iconst 1, 1) := by decide +kernel
theorem dL_law_212 : decode cL_law 212 = .ok (.iadd, 1) := by decide +kernel
theorem dL_law_213 : decode cL_law 213 = .ok (.iaload, 1) := by decide +kernel
theorem dL_law_214 : decode cL_law 214 = .ok (.aload_n 0, 1) := by decide +kernel
theorem dL_law_215 : decode cL_law 215 = .ok (.iload_n 3, 1) := by decide +kernel
theorem dL_law_216 : decode cL_law 216 = .ok (.iconst 2, 1) := by decide +kernel
theorem dL_law_217 : decode cL_law 217 = .ok (.iadd, 1) := by decide +kernel
theorem dL_law_218 : decode cL_law 218 = .ok (.iaload, 1) := by decide +kernel
theorem dL_law_219 : decode cL_law 219 = .ok (.aload_n 0, 1) := by decide +kernel
theorem dL_law_220 : decode cL_law 220 = .ok (.iload_n 3, 1) := by decide +kernel
theorem dL_law_221 : decode cL_law 221 = .ok (.iconst 3, 1) := by decide +kernel
theorem dL_law_222 : decode cL_law 222 = .ok (.iadd, 1) := by decide +kernel
theorem dL_law_223 : decode cL_law 223 = .ok (.iaload, 1) := by decide +kernel
theorem dL_law_224 : decode cL_law 224 = .ok (.aload_n 0, 1) := by decide +kernel
theorem dL_law_225 : decode cL_law 225 = .ok (.iload_n 3, 1) := by decide +kernel
theorem dL_law_226 : decode cL_law 226 = .ok (.iconst 4, 1) := by decide +kernel
theorem dL_law_227 : decode cL_law 227 = .ok (.iadd, 1) := by decide +kernel
theorem dL_law_228 : decode cL_law 228 = .ok (.iaload, 1) := by decide +kernel
theorem dL_law_229 : decode cL_law 229 = .ok (.aload_n 0, 1) := by decide +kernel
theorem dL_law_230 : decode cL_law 230 = .ok (.iload_n 3, 1) := by decide +kernel
theorem dL_law_231 : decode cL_law 231 = .ok (.iconst 5, 1) := by decide +kernel
theorem dL_law_232 : decode cL_law 232 = .ok (.iadd, 1) := by decide +kernel
theorem dL_law_233 : decode cL_law 233 = .ok (.iaload, 1) := by decide +kernel
theorem dL_law_234 : decode cL_law 234 = .ok (.invokevirtual 22, 3) := by decide +kernel
theorem dL_law_237 : decode cL_law 237 = .ok (.if_icmp .eq 577, 3) := by decide +kernel
theorem dL_law_240 : decode cL_law 240 = .ok (.iconst 0, 1) := by decide +kernel
theorem dL_law_241 : decode cL_law 241 = .ok (.ireturn, 1) := by decide +kernel
theorem dL_law_242 : decode cL_law 242 = .ok (.aload_n 1, 1) := by decide +kernel
theorem dL_law_243 : decode cL_law 243 = .ok (.aload_n 0, 1) := by decide +kernel
theorem dL_law_244 : decode cL_law 244 = .ok (.iload_n 3, 1) := by decide +kernel
theorem dL_law_245 : decode cL_law 245 = .ok (.iconst 1, 1) := by decide +kernel
theorem dL_law_246 : decode cL_law 246 = .ok (.iadd, 1) := by decide +kernel
theorem dL_law_247 : decode cL_law 247 = .ok (.iaload, 1) := by decide +kernel
theorem dL_law_248 : decode cL_law 248 = .ok (.aload_n 0, 1) := by decide +kernel
theorem dL_law_249 : decode cL_law 249 = .ok (.iload_n 3, 1) := by decide +kernel
theorem dL_law_250 : decode cL_law 250 = .ok (.iconst 2, 1) := by decide +kernel
theorem dL_law_251 : decode cL_law 251 = .ok (.iadd, 1) := by decide +kernel
theorem dL_law_252 : decode cL_law 252 = .ok (.iaload, 1) := by decide +kernel
theorem dL_law_253 : decode cL_law 253 = .ok (.aload_n 0, 1) := by decide +kernel
theorem dL_law_254 : decode cL_law 254 = .ok (.iload_n 3, 1) := by decide +kernel
theorem dL_law_255 : decode cL_law 255 = .ok (.iconst 3, 1) := by decide +kernel
theorem dL_law_256 : decode cL_law 256 = .ok (.iadd, 1) := by decide +kernel
theorem dL_law_257 : decode cL_law 257 = .ok (.iaload, 1) := by decide +kernel
theorem dL_law_258 : decode cL_law 258 = .ok (.aload_n 0, 1) := by decide +kernel
theorem dL_law_259 : decode cL_law 259 = .ok (.iload_n 3, 1) := by decide +kernel
theorem dL_law_260 : decode cL_law 260 = .ok (.iconst 4, 1) := by decide +kernel
theorem dL_law_261 : decode cL_law 261 = .ok (.iadd, 1) := by decide +kernel
theorem dL_law_262 : decode cL_law 262 = .ok (.iaload, 1) := by decide +kernel
theorem dL_law_263 : decode cL_law 263 = .ok (.aload_n 0, 1) := by decide +kernel
theorem dL_law_264 : decode cL_law 264 = .ok (.iload_n 3, 1) := by decide +kernel
theorem dL_law_265 : decode cL_law 265 = .ok (.iconst 5, 1) := by decide +kernel
theorem dL_law_266 : decode cL_law 266 = .ok (.iadd, 1) := by decide +kernel
theorem dL_law_267 : decode cL_law 267 = .ok (.iaload, 1) := by decide +kernel
theorem dL_law_268 : decode cL_law 268 = .ok (.aload_n 0, 1) := by decide +kernel
theorem dL_law_269 : decode cL_law 269 = .ok (.iload_n 3, 1) := by decide +kernel
theorem dL_law_270 : decode cL_law 270 = .ok (.bipush 6, 2) := by decide +kernel
theorem dL_law_272 : decode cL_law 272 = .ok (.iadd, 1) := by decide +kernel
theorem dL_law_273 : decode cL_law 273 = .ok (.iaload, 1) := by decide +kernel
theorem dL_law_274 : decode cL_law 274 = .ok (.invokevirtual 23, 3) := by decide +kernel
theorem dL_law_277 : decode cL_law 277 = .ok (.aload_n 2, 1) := by decide +kernel
theorem dL_law_278 : decode cL_law 278 = .ok (.aload_n 0, 1) := by decide +kernel
theorem dL_law_279 : decode cL_law 279 = .ok (.iload_n 3, 1) := by decide +kernel
theorem dL_law_280 : decode cL_law 280 = .ok (.iconst 1, 1) := by decide +kernel
theorem dL_law_281 : decode cL_law 281 = .ok (.iadd, 1) := by decide +kernel
theorem dL_law_282 : decode cL_law 282 = .ok (.iaload, 1) := by decide +kernel
theorem dL_law_283 : decode cL_law 283 = .ok (.aload_n 0, 1) := by decide +kernel
theorem dL_law_284 : decode cL_law 284 = .ok (.iload_n 3, 1) := by decide +kernel
theorem dL_law_285 : decode cL_law 285 = .ok (.iconst 2, 1) := by decide +kernel
theorem dL_law_286 : decode cL_law 286 = .ok (.iadd, 1) := by decide +kernel
theorem dL_law_287 : decode cL_law 287 = .ok (.iaload, 1) := by decide +kernel
theorem dL_law_288 : decode cL_law 288 = .ok (.aload_n 0, 1) := by decide +kernel
theorem dL_law_289 : decode cL_law 289 = .ok (.iload_n 3, 1) := by decide +kernel
theorem dL_law_290 : decode cL_law 290 = .ok (.iconst 3, 1) := by decide +kernel
theorem dL_law_291 : decode cL_law 291 = .ok (.iadd, 1) := by decide +kernel
theorem dL_law_292 : decode cL_law 292 = .ok (.iaload, 1) := by decide +kernel
theorem dL_law_293 : decode cL_law 293 = .ok (.aload_n 0, 1) := by decide +kernel
theorem dL_law_294 : decode cL_law 294 = .ok (.iload_n 3, 1) := by decide +kernel
theorem dL_law_295 : decode cL_law 295 = .ok (.iconst 4, 1) := by decide +kernel
theorem dL_law_296 : decode cL_law 296 = .ok (.iadd, 1) := by decide +kernel
theorem dL_law_297 : decode cL_law 297 = .ok (.iaload, 1) := by decide +kernel
theorem dL_law_298 : decode cL_law 298 = .ok (.aload_n 0, 1) := by decide +kernel
theorem dL_law_299 : decode cL_law 299 = .ok (.iload_n 3, 1) := by decide +kernel
theorem dL_law_300 : decode cL_law 300 = .ok (.iconst 5, 1) := by decide +kernel
theorem dL_law_301 : decode cL_law 301 = .ok (.iadd, 1) := by decide +kernel
theorem dL_law_302 : decode cL_law 302 = .ok (.iaload, 1) := by decide +kernel
theorem dL_law_303 : decode cL_law 303 = .ok (.aload_n 0, 1) := by decide +kernel
theorem dL_law_304 : decode cL_law 304 = .ok (.iload_n 3, 1) := by decide +kernel
theorem dL_law_305 : decode cL_law 305 = .ok (.bipush 6, 2) := by decide +kernel
theorem dL_law_307 : decode cL_law 307 = .ok (.iadd, 1) := by decide +kernel
theorem dL_law_308 : decode cL_law 308 = .ok (.iaload, 1) := by decide +kernel
theorem dL_law_309 : decode cL_law 309 = .ok (.invokevirtual 27, 3) := by decide +kernel
theorem dL_law_312 : decode cL_law 312 = .ok (.if_icmp .eq 502, 3) := by decide +kernel
theorem dL_law_315 : decode cL_law 315 = .ok (.iconst 0, 1) := by decide +kernel
theorem dL_law_316 : decode cL_law 316 = .ok (.ireturn, 1) := by decide +kernel
theorem dL_law_317 : decode cL_law 317 = .ok (.aload_n 1, 1) := by decide +kernel
theorem dL_law_318 : decode cL_law 318 = .ok (.aload_n 0, 1) := by decide +kernel
theorem dL_law_319 : decode cL_law 319 = .ok (.iload_n 3, 1) := by decide +kernel
theorem dL_law_320 : decode cL_law 320 = .ok (.iconst 1, 1) := by decide +kernel
theorem dL_law_321 : decode cL_law 321 = .ok (.iadd, 1) := by decide +kernel
theorem dL_law_322 : decode cL_law 322 = .ok (.iaload, 1) := by decide +kernel
theorem dL_law_323 : decode cL_law 323 = .ok (.aload_n 0, 1) := by decide +kernel
theorem dL_law_324 : decode cL_law 324 = .ok (.iload_n 3, 1) := by decide +kernel
theorem dL_law_325 : decode cL_law 325 = .ok (.iconst 2, 1) := by decide +kernel
theorem dL_law_326 : decode cL_law 326 = .ok (.iadd, 1) := by decide +kernel
theorem dL_law_327 : decode cL_law 327 = .ok (.iaload, 1) := by decide +kernel
theorem dL_law_328 : decode cL_law 328 = .ok (.invokevirtual 28, 3) := by decide +kernel
theorem dL_law_331 : decode cL_law 331 = .ok (.aload_n 2, 1) := by decide +kernel
theorem dL_law_332 : decode cL_law 332 = .ok (.aload_n 0, 1) := by decide +kernel
theorem dL_law_333 : decode cL_law 333 = .ok (.iload_n 3, 1) := by decide +kernel
theorem dL_law_334 : decode cL_law 334 = .ok (.iconst 1, 1) := by decide +kernel
theorem dL_law_335 : decode cL_law 335 = .ok (.iadd, 1) := by decide +kernel
theorem dL_law_336 : decode cL_law 336 = .ok (.iaload, 1) := by decide +kernel
theorem dL_law_337 : decode cL_law 337 = .ok (.aload_n 0, 1) := by decide +kernel
theorem dL_law_338 : decode cL_law 338 = .ok (.iload_n 3, 1) := by decide +kernel
theorem dL_law_339 : decode cL_law 339 = .ok (.iconst 2, 1) := by decide +kernel
theorem dL_law_340 : decode cL_law 340 = .ok (.iadd, 1) := by decide +kernel
theorem dL_law_341 : decode cL_law 341 = .ok (.iaload, 1) := by decide +kernel
theorem dL_law_342 : decode cL_law 342 = .ok (.invokevirtual 32, 3) := by decide +kernel
theorem dL_law_345 : decode cL_law 345 = .ok (.if_icmp .eq 469, 3) := by decide +kernel
theorem dL_law_348 : decode cL_law 348 = .ok (.iconst 0, 1) := by decide +kernel
theorem dL_law_349 : decode cL_law 349 = .ok (.ireturn, 1) := by decide +kernel
theorem dL_law_350 : decode cL_law 350 = .ok (.aload_n 1, 1) := by decide +kernel
theorem dL_law_351 : decode cL_law 351 = .ok (.aload_n 0, 1) := by decide +kernel
theorem dL_law_352 : decode cL_law 352 = .ok (.iload_n 3, 1) := by decide +kernel
theorem dL_law_353 : decode cL_law 353 = .ok (.iconst 1, 1) := by decide +kernel
theorem dL_law_354 : decode cL_law 354 = .ok (.iadd, 1) := by decide +kernel
theorem dL_law_355 : decode cL_law 355 = .ok (.iaload, 1) := by decide +kernel
theorem dL_law_356 : decode cL_law 356 = .ok (.aload_n 0, 1) := by decide +kernel
theorem dL_law_357 : decode cL_law 357 = .ok (.iload_n 3, 1) := by decide +kernel
theorem dL_law_358 : decode cL_law 358 = .ok (.iconst 2, 1) := by decide +kernel
theorem dL_law_359 : decode cL_law 359 = .ok (.iadd, 1) := by decide +kernel
theorem dL_law_360 : decode cL_law 360 = .ok (.iaload, 1) := by decide +kernel
theorem dL_law_361 : decode cL_law 361 = .ok (.invokevirtual 33, 3) := by decide +kernel
theorem dL_law_364 : decode cL_law 364 = .ok (.aload_n 2, 1) := by decide +kernel
theorem dL_law_365 : decode cL_law 365 = .ok (.aload_n 0, 1) := by decide +kernel
theorem dL_law_366 : decode cL_law 366 = .ok (.iload_n 3, 1) := by decide +kernel
theorem dL_law_367 : decode cL_law 367 = .ok (.iconst 1, 1) := by decide +kernel
theorem dL_law_368 : decode cL_law 368 = .ok (.iadd, 1) := by decide +kernel
theorem dL_law_369 : decode cL_law 369 = .ok (.iaload, 1) := by decide +kernel
theorem dL_law_370 : decode cL_law 370 = .ok (.aload_n 0, 1) := by decide +kernel
theorem dL_law_371 : decode cL_law 371 = .ok (.iload_n 3, 1) := by decide +kernel
theorem dL_law_372 : decode cL_law 372 = .ok (.iconst 2, 1) := by decide +kernel
theorem dL_law_373 : decode cL_law 373 = .ok (.iadd, 1) := by decide +kernel
theorem dL_law_374 : decode cL_law 374 = .ok (.iaload, 1) := by decide +kernel
theorem dL_law_375 : decode cL_law 375 = .ok (.invokevirtual 36, 3) := by decide +kernel
theorem dL_law_378 : decode cL_law 378 = .ok (.if_icmp .eq 436, 3) := by decide +kernel
theorem dL_law_381 : decode cL_law 381 = .ok (.iconst 0, 1) := by decide +kernel
theorem dL_law_382 : decode cL_law 382 = .ok (.ireturn, 1) := by decide +kernel
theorem dL_law_383 : decode cL_law 383 = .ok (.aload_n 1, 1) := by decide +kernel
theorem dL_law_384 : decode cL_law 384 = .ok (.aload_n 0, 1) := by decide +kernel
theorem dL_law_385 : decode cL_law 385 = .ok (.iload_n 3, 1) := by decide +kernel
theorem dL_law_386 : decode cL_law 386 = .ok (.iconst 1, 1) := by decide +kernel
theorem dL_law_387 : decode cL_law 387 = .ok (.iadd, 1) := by decide +kernel
theorem dL_law_388 : decode cL_law 388 = .ok (.iaload, 1) := by decide +kernel
theorem dL_law_389 : decode cL_law 389 = .ok (.invokevirtual 37, 3) := by decide +kernel
theorem dL_law_392 : decode cL_law 392 = .ok (.aload_n 2, 1) := by decide +kernel
theorem dL_law_393 : decode cL_law 393 = .ok (.aload_n 0, 1) := by decide +kernel
theorem dL_law_394 : decode cL_law 394 = .ok (.iload_n 3, 1) := by decide +kernel
theorem dL_law_395 : decode cL_law 395 = .ok (.iconst 1, 1) := by decide +kernel
theorem dL_law_396 : decode cL_law 396 = .ok (.iadd, 1) := by decide +kernel
theorem dL_law_397 : decode cL_law 397 = .ok (.iaload, 1) := by decide +kernel
theorem dL_law_398 : decode cL_law 398 = .ok (.invokevirtual 41, 3) := by decide +kernel
theorem dL_law_401 : decode cL_law 401 = .ok (.if_icmp .eq 413, 3) := by decide +kernel
theorem dL_law_404 : decode cL_law 404 = .ok (.iconst 0, 1) := by decide +kernel
theorem dL_law_405 : decode cL_law 405 = .ok (.ireturn, 1) := by decide +kernel
theorem dL_law_406 : decode cL_law 406 = .ok (.aload_n 1, 1) := by decide +kernel
theorem dL_law_407 : decode cL_law 407 = .ok (.aload_n 0, 1) := by decide +kernel
theorem dL_law_408 : decode cL_law 408 = .ok (.iload_n 3, 1) := by decide +kernel
theorem dL_law_409 : decode cL_law 409 = .ok (.iconst 1, 1) := by decide +kernel
theorem dL_law_410 : decode cL_law 410 = .ok (.iadd, 1) := by decide +kernel
theorem dL_law_411 : decode cL_law 411 = .ok (.iaload, 1) := by decide +kernel
theorem dL_law_412 : decode cL_law 412 = .ok (.invokevirtual 42, 3) := by decide +kernel
theorem dL_law_415 : decode cL_law 415 = .ok (.aload_n 2, 1) := by decide +kernel
theorem dL_law_416 : decode cL_law 416 = .ok (.aload_n 0, 1) := by decide +kernel
theorem dL_law_417 : decode cL_law 417 = .ok (.iload_n 3, 1) := by decide +kernel
theorem dL_law_418 : decode cL_law 418 = .ok (.iconst 1, 1) := by decide +kernel
theorem dL_law_419 : decode cL_law 419 = .ok (.iadd, 1) := by decide +kernel
theorem dL_law_420 : decode cL_law 420 = .ok (.iaload, 1) := by decide +kernel
theorem dL_law_421 : decode cL_law 421 = .ok (.invokevirtual 45, 3) := by decide +kernel
theorem dL_law_424 : decode cL_law 424 = .ok (.if_icmp .eq 390, 3) := by decide +kernel
theorem dL_law_427 : decode cL_law 427 = .ok (.iconst 0, 1) := by decide +kernel
theorem dL_law_428 : decode cL_law 428 = .ok (.ireturn, 1) := by decide +kernel
theorem dL_law_429 : decode cL_law 429 = .ok (.aload_n 1, 1) := by decide +kernel
theorem dL_law_430 : decode cL_law 430 = .ok (.aload_n 0, 1) := by decide +kernel
theorem dL_law_431 : decode cL_law 431 = .ok (.iload_n 3, 1) := by decide +kernel
theorem dL_law_432 : decode cL_law 432 = .ok (.iconst 1, 1) := by decide +kernel
theorem dL_law_433 : decode cL_law 433 = .ok (.iadd, 1) := by decide +kernel
theorem dL_law_434 : decode cL_law 434 = .ok (.iaload, 1) := by decide +kernel
theorem dL_law_435 : decode cL_law 435 = .ok (.aload_n 0, 1) := by decide +kernel
theorem dL_law_436 : decode cL_law 436 = .ok (.iload_n 3, 1) := by decide +kernel
theorem dL_law_437 : decode cL_law 437 = .ok (.iconst 2, 1) := by decide +kernel
theorem dL_law_438 : decode cL_law 438 = .ok (.iadd, 1) := by decide +kernel
theorem dL_law_439 : decode cL_law 439 = .ok (.iaload, 1) := by decide +kernel
theorem dL_law_440 : decode cL_law 440 = .ok (.invokevirtual 46, 3) := by decide +kernel
theorem dL_law_443 : decode cL_law 443 = .ok (.aload_n 2, 1) := by decide +kernel
theorem dL_law_444 : decode cL_law 444 = .ok (.aload_n 0, 1) := by decide +kernel
theorem dL_law_445 : decode cL_law 445 = .ok (.iload_n 3, 1) := by decide +kernel
theorem dL_law_446 : decode cL_law 446 = .ok (.iconst 1, 1) := by decide +kernel
theorem dL_law_447 : decode cL_law 447 = .ok (.iadd, 1) := by decide +kernel
theorem dL_law_448 : decode cL_law 448 = .ok (.iaload, 1) := by decide +kernel
theorem dL_law_449 : decode cL_law 449 = .ok (.aload_n 0, 1) := by decide +kernel
theorem dL_law_450 : decode cL_law 450 = .ok (.iload_n 3, 1) := by decide +kernel
theorem dL_law_451 : decode cL_law 451 = .ok (.iconst 2, 1) := by decide +kernel
theorem dL_law_452 : decode cL_law 452 = .ok (.iadd, 1) := by decide +kernel
theorem dL_law_453 : decode cL_law 453 = .ok (.iaload, 1) := by decide +kernel
theorem dL_law_454 : decode cL_law 454 = .ok (.invokevirtual 49, 3) := by decide +kernel
theorem dL_law_457 : decode cL_law 457 = .ok (.if_icmp .eq 357, 3) := by decide +kernel
theorem dL_law_460 : decode cL_law 460 = .ok (.iconst 0, 1) := by decide +kernel
theorem dL_law_461 : decode cL_law 461 = .ok (.ireturn, 1) := by decide +kernel
theorem dL_law_462 : decode cL_law 462 = .ok (.aload_n 1, 1) := by decide +kernel
theorem dL_law_463 : decode cL_law 463 = .ok (.aload_n 0, 1) := by decide +kernel
theorem dL_law_464 : decode cL_law 464 = .ok (.iload_n 3, 1) := by decide +kernel
theorem dL_law_465 : decode cL_law 465 = .ok (.iconst 1, 1) := by decide +kernel
theorem dL_law_466 : decode cL_law 466 = .ok (.iadd, 1) := by decide +kernel
theorem dL_law_467 : decode cL_law 467 = .ok (.iaload, 1) := by decide +kernel
theorem dL_law_468 : decode cL_law 468 = .ok (.aload_n 0, 1) := by decide +kernel
theorem dL_law_469 : decode cL_law 469 = .ok (.iload_n 3, 1) := by decide +kernel
theorem dL_law_470 : decode cL_law 470 = .ok (.iconst 2, 1) := by decide +kernel
theorem dL_law_471 : decode cL_law 471 = .ok (.iadd, 1) := by decide +kernel
theorem dL_law_472 : decode cL_law 472 = .ok (.iaload, 1) := by decide +kernel
theorem dL_law_473 : decode cL_law 473 = .ok (.invokevirtual 50, 3) := by decide +kernel
theorem dL_law_476 : decode cL_law 476 = .ok (.aload_n 2, 1) := by decide +kernel
theorem dL_law_477 : decode cL_law 477 = .ok (.aload_n 0, 1) := by decide +kernel
theorem dL_law_478 : decode cL_law 478 = .ok (.iload_n 3, 1) := by decide +kernel
theorem dL_law_479 : decode cL_law 479 = .ok (.iconst 1, 1) := by decide +kernel
theorem dL_law_480 : decode cL_law 480 = .ok (.iadd, 1) := by decide +kernel
theorem dL_law_481 : decode cL_law 481 = .ok (.iaload, 1) := by decide +kernel
theorem dL_law_482 : decode cL_law 482 = .ok (.aload_n 0, 1) := by decide +kernel
theorem dL_law_483 : decode cL_law 483 = .ok (.iload_n 3, 1) := by decide +kernel
theorem dL_law_484 : decode cL_law 484 = .ok (.iconst 2, 1) := by decide +kernel
theorem dL_law_485 : decode cL_law 485 = .ok (.iadd, 1) := by decide +kernel
theorem dL_law_486 : decode cL_law 486 = .ok (.iaload, 1) := by decide +kernel
theorem dL_law_487 : decode cL_law 487 = .ok (.invokevirtual 53, 3) := by decide +kernel
theorem dL_law_490 : decode cL_law 490 = .ok (.if_icmp .eq 324, 3) := by decide +kernel
theorem dL_law_493 : decode cL_law 493 = .ok (.iconst 0, 1) := by decide +kernel
theorem dL_law_494 : decode cL_law 494 = .ok (.ireturn, 1) := by decide +kernel
theorem dL_law_495 : decode cL_law 495 = .ok (.aload_n 1, 1) := by decide +kernel
theorem dL_law_496 : decode cL_law 496 = .ok (.aload_n 0, 1) := by decide +kernel
theorem dL_law_497 : decode cL_law 497 = .ok (.iload_n 3, 1) := by decide +kernel
theorem dL_law_498 : decode cL_law 498 = .ok (.iconst 1, 1) := by decide +kernel
theorem dL_law_499 : decode cL_law 499 = .ok (.iadd, 1) := by decide +kernel
theorem dL_law_500 : decode cL_law 500 = .ok (.iaload, 1) := by decide +kernel
theorem dL_law_501 : decode cL_law 501 = .ok (.aload_n 0, 1) := by decide +kernel
theorem dL_law_502 : decode cL_law 502 = .ok (.iload_n 3, 1) := by decide +kernel
theorem dL_law_503 : decode cL_law 503 = .ok (.iconst 2, 1) := by decide +kernel
theorem dL_law_504 : decode cL_law 504 = .ok (.iadd, 1) := by decide +kernel
theorem dL_law_505 : decode cL_law 505 = .ok (.iaload, 1) := by decide +kernel
theorem dL_law_506 : decode cL_law 506 = .ok (.aload_n 0, 1) := by decide +kernel
theorem dL_law_507 : decode cL_law 507 = .ok (.iload_n 3, 1) := by decide +kernel
theorem dL_law_508 : decode cL_law 508 = .ok (.iconst 3, 1) := by decide +kernel
theorem dL_law_509 : decode cL_law 509 = .ok (.iadd, 1) := by decide +kernel
theorem dL_law_510 : decode cL_law 510 = .ok (.iaload, 1) := by decide +kernel
theorem dL_law_511 : decode cL_law 511 = .ok (.invokevirtual 54, 3) := by decide +kernel
theorem dL_law_514 : decode cL_law 514 = .ok (.aload_n 2, 1) := by decide +kernel
theorem dL_law_515 : decode cL_law 515 = .ok (.aload_n 0, 1) := by decide +kernel
theorem dL_law_516 : decode cL_law 516 = .ok (.iload_n 3, 1) := by decide +kernel
theorem dL_law_517 : decode cL_law 517 = .ok (.iconst 1, 1) := by decide +kernel
theorem dL_law_518 : decode cL_law 518 = .ok (.iadd, 1) := by decide +kernel
theorem dL_law_519 : decode cL_law 519 = .ok (.iaload, 1) := by decide +kernel
theorem dL_law_520 : decode cL_law 520 = .ok (.aload_n 0, 1) := by decide +kernel
theorem dL_law_521 : decode cL_law 521 = .ok (.iload_n 3, 1) := by decide +kernel
theorem dL_law_522 : decode cL_law 522 = .ok (.iconst 2, 1) := by decide +kernel
theorem dL_law_523 : decode cL_law 523 = .ok (.iadd, 1) := by decide +kernel
theorem dL_law_524 : decode cL_law 524 = .ok (.iaload, 1) := by decide +kernel
theorem dL_law_525 : decode cL_law 525 = .ok (.aload_n 0, 1) := by decide +kernel
theorem dL_law_526 : decode cL_law 526 = .ok (.iload_n 3, 1) := by decide +kernel
theorem dL_law_527 : decode cL_law 527 = .ok (.iconst 3, 1) := by decide +kernel
theorem dL_law_528 : decode cL_law 528 = .ok (.iadd, 1) := by decide +kernel
theorem dL_law_529 : decode cL_law 529 = .ok (.iaload, 1) := by decide +kernel
theorem dL_law_530 : decode cL_law 530 = .ok (.invokevirtual 57, 3) := by decide +kernel
theorem dL_law_533 : decode cL_law 533 = .ok (.if_icmp .eq 281, 3) := by decide +kernel
theorem dL_law_536 : decode cL_law 536 = .ok (.iconst 0, 1) := by decide +kernel
theorem dL_law_537 : decode cL_law 537 = .ok (.ireturn, 1) := by decide +kernel
theorem dL_law_538 : decode cL_law 538 = .ok (.aload_n 1, 1) := by decide +kernel
theorem dL_law_539 : decode cL_law 539 = .ok (.aload_n 0, 1) := by decide +kernel
theorem dL_law_540 : decode cL_law 540 = .ok (.iload_n 3, 1) := by decide +kernel
theorem dL_law_541 : decode cL_law 541 = .ok (.iconst 1, 1) := by decide +kernel
theorem dL_law_542 : decode cL_law 542 = .ok (.iadd, 1) := by decide +kernel
theorem dL_law_543 : decode cL_law 543 = .ok (.iaload, 1) := by decide +kernel
theorem dL_law_544 : decode cL_law 544 = .ok (.aload_n 0, 1) := by decide +kernel
theorem dL_law_545 : decode cL_law 545 = .ok (.iload_n 3, 1) := by decide +kernel
theorem dL_law_546 : decode cL_law 546 = .ok (.iconst 2, 1) := by decide +kernel
theorem dL_law_547 : decode cL_law 547 = .ok (.iadd, 1) := by decide +kernel
theorem dL_law_548 : decode cL_law 548 = .ok (.iaload, 1) := by decide +kernel
theorem dL_law_549 : decode cL_law 549 = .ok (.invokevirtual 58, 3) := by decide +kernel
theorem dL_law_552 : decode cL_law 552 = .ok (.aload_n 2, 1) := by decide +kernel
theorem dL_law_553 : decode cL_law 553 = .ok (.aload_n 0, 1) := by decide +kernel
theorem dL_law_554 : decode cL_law 554 = .ok (.iload_n 3, 1) := by decide +kernel
theorem dL_law_555 : decode cL_law 555 = .ok (.iconst 1, 1) := by decide +kernel
theorem dL_law_556 : decode cL_law 556 = .ok (.iadd, 1) := by decide +kernel
theorem dL_law_557 : decode cL_law 557 = .ok (.iaload, 1) := by decide +kernel
theorem dL_law_558 : decode cL_law 558 = .ok (.aload_n 0, 1) := by decide +kernel
theorem dL_law_559 : decode cL_law 559 = .ok (.iload_n 3, 1) := by decide +kernel
theorem dL_law_560 : decode cL_law 560 = .ok (.iconst 2, 1) := by decide +kernel
theorem dL_law_561 : decode cL_law 561 = .ok (.iadd, 1) := by decide +kernel
theorem dL_law_562 : decode cL_law 562 = .ok (.iaload, 1) := by decide +kernel
theorem dL_law_563 : decode cL_law 563 = .ok (.invokevirtual 61, 3) := by decide +kernel
theorem dL_law_566 : decode cL_law 566 = .ok (.if_icmp .eq 248, 3) := by decide +kernel
theorem dL_law_569 : decode cL_law 569 = .ok (.iconst 0, 1) := by decide +kernel
theorem dL_law_570 : decode cL_law 570 = .ok (.ireturn, 1) := by decide +kernel
theorem dL_law_571 : decode cL_law 571 = .ok (.aload_n 1, 1) := by decide +kernel
theorem dL_law_572 : decode cL_law 572 = .ok (.aload_n 0, 1) := by decide +kernel
theorem dL_law_573 : decode cL_law 573 = .ok (.iload_n 3, 1) := by decide +kernel
theorem dL_law_574 : decode cL_law 574 = .ok (.iconst 1, 1) := by decide +kernel
theorem dL_law_575 : decode cL_law 575 = .ok (.iadd, 1) := by decide +kernel
theorem dL_law_576 : decode cL_law 576 = .ok (.iaload, 1) := by decide +kernel
theorem dL_law_577 : decode cL_law 577 = .ok (.aload_n 0, 1) := by decide +kernel
theorem dL_law_578 : decode cL_law 578 = .ok (.iload_n 3, 1) := by decide +kernel
theorem dL_law_579 : decode cL_law 579 = .ok (.iconst 2, 1) := by decide +kernel
theorem dL_law_580 : decode cL_law 580 = .ok (.iadd, 1) := by decide +kernel
theorem dL_law_581 : decode cL_law 581 = .ok (.iaload, 1) := by decide +kernel
theorem dL_law_582 : decode cL_law 582 = .ok (.aload_n 0, 1) := by decide +kernel
theorem dL_law_583 : decode cL_law 583 = .ok (.iload_n 3, 1) := by decide +kernel
theorem dL_law_584 : decode cL_law 584 = .ok (.iconst 3, 1) := by decide +kernel
theorem dL_law_585 : decode cL_law 585 = .ok (.iadd, 1) := by decide +kernel
theorem dL_law_586 : decode cL_law 586 = .ok (.iaload, 1) := by decide +kernel
theorem dL_law_587 : decode cL_law 587 = .ok (.invokevirtual 62, 3) := by decide +kernel
theorem dL_law_590 : decode cL_law 590 = .ok (.aload_n 2, 1) := by decide +kernel
theorem dL_law_591 : decode cL_law 591 = .ok (.aload_n 0, 1) := by decide +kernel
theorem dL_law_592 : decode cL_law 592 = .ok (.iload_n 3, 1) := by decide +kernel
theorem dL_law_593 : decode cL_law 593 = .ok (.iconst 1, 1) := by decide +kernel
theorem dL_law_594 : decode cL_law 594 = .ok (.iadd, 1) := by decide +kernel
theorem dL_law_595 : decode cL_law 595 = .ok (.iaload, 1) := by decide +kernel
theorem dL_law_596 : decode cL_law 596 = .ok (.aload_n 0, 1) := by decide +kernel
theorem dL_law_597 : decode cL_law 597 = .ok (.iload_n 3, 1) := by decide +kernel
theorem dL_law_598 : decode cL_law 598 = .ok (.iconst 2, 1) := by decide +kernel
theorem dL_law_599 : decode cL_law 599 = .ok (.iadd, 1) := by decide +kernel
theorem dL_law_600 : decode cL_law 600 = .ok (.iaload, 1) := by decide +kernel
theorem dL_law_601 : decode cL_law 601 = .ok (.aload_n 0, 1) := by decide +kernel
theorem dL_law_602 : decode cL_law 602 = .ok (.iload_n 3, 1) := by decide +kernel
theorem dL_law_603 : decode cL_law 603 = .ok (.iconst 3, 1) := by decide +kernel
theorem dL_law_604 : decode cL_law 604 = .ok (.iadd, 1) := by decide +kernel
theorem dL_law_605 : decode cL_law 605 = .ok (.iaload, 1) := by decide +kernel
theorem dL_law_606 : decode cL_law 606 = .ok (.invokevirtual 65, 3) := by decide +kernel
theorem dL_law_609 : decode cL_law 609 = .ok (.if_icmp .eq 205, 3) := by decide +kernel
theorem dL_law_612 : decode cL_law 612 = .ok (.iconst 0, 1) := by decide +kernel
theorem dL_law_613 : decode cL_law 613 = .ok (.ireturn, 1) := by decide +kernel
theorem dL_law_614 : decode cL_law 614 = .ok (.aload_n 1, 1) := by decide +kernel
theorem dL_law_615 : decode cL_law 615 = .ok (.aload_n 0, 1) := by decide +kernel
theorem dL_law_616 : decode cL_law 616 = .ok (.iload_n 3, 1) := by decide +kernel
theorem dL_law_617 : decode cL_law 617 = .ok (.iconst 1, 1) := by decide +kernel
theorem dL_law_618 : decode cL_law 618 = .ok (.iadd, 1) := by decide +kernel
theorem dL_law_619 : decode cL_law 619 = .ok (.iaload, 1) := by decide +kernel
theorem dL_law_620 : decode cL_law 620 = .ok (.invokevirtual 66, 3) := by decide +kernel
theorem dL_law_623 : decode cL_law 623 = .ok (.aload_n 2, 1) := by decide +kernel
theorem dL_law_624 : decode cL_law 624 = .ok (.aload_n 0, 1) := by decide +kernel
theorem dL_law_625 : decode cL_law 625 = .ok (.iload_n 3, 1) := by decide +kernel
theorem dL_law_626 : decode cL_law 626 = .ok (.iconst 1, 1) := by decide +kernel
theorem dL_law_627 : decode cL_law 627 = .ok (.iadd, 1) := by decide +kernel
theorem dL_law_628 : decode cL_law 628 = .ok (.iaload, 1) := by decide +kernel
theorem dL_law_629 : decode cL_law 629 = .ok (.invokevirtual 69, 3) := by decide +kernel
theorem dL_law_632 : decode cL_law 632 = .ok (.if_icmp .eq 182, 3) := by decide +kernel
theorem dL_law_635 : decode cL_law 635 = .ok (.iconst 0, 1) := by decide +kernel
theorem dL_law_636 : decode cL_law 636 = .ok (.ireturn, 1) := by decide +kernel
theorem dL_law_637 : decode cL_law 637 = .ok (.aload_n 1, 1) := by decide +kernel
theorem dL_law_638 : decode cL_law 638 = .ok (.aload_n 0, 1) := by decide +kernel
theorem dL_law_639 : decode cL_law 639 = .ok (.iload_n 3, 1) := by decide +kernel
theorem dL_law_640 : decode cL_law 640 = .ok (.iconst 1, 1) := by decide +kernel
theorem dL_law_641 : decode cL_law 641 = .ok (.iadd, 1) := by decide +kernel
theorem dL_law_642 : decode cL_law 642 = .ok (.iaload, 1) := by decide +kernel
theorem dL_law_643 : decode cL_law 643 = .ok (.invokevirtual 70, 3) := by decide +kernel
theorem dL_law_646 : decode cL_law 646 = .ok (.aload_n 2, 1) := by decide +kernel
theorem dL_law_647 : decode cL_law 647 = .ok (.aload_n 0, 1) := by decide +kernel
theorem dL_law_648 : decode cL_law 648 = .ok (.iload_n 3, 1) := by decide +kernel
theorem dL_law_649 : decode cL_law 649 = .ok (.iconst 1, 1) := by decide +kernel
theorem dL_law_650 : decode cL_law 650 = .ok (.iadd, 1) := by decide +kernel
theorem dL_law_651 : decode cL_law 651 = .ok (.iaload, 1) := by decide +kernel
theorem dL_law_652 : decode cL_law 652 = .ok (.invokevirtual 73, 3) := by decide +kernel
theorem dL_law_655 : decode cL_law 655 = .ok (.if_icmp .eq 159, 3) := by decide +kernel
theorem dL_law_658 : decode cL_law 658 = .ok (.iconst 0, 1) := by decide +kernel
theorem dL_law_659 : decode cL_law 659 = .ok (.ireturn, 1) := by decide +kernel
theorem dL_law_660 : decode cL_law 660 = .ok (.aload_n 1, 1) := by decide +kernel
theorem dL_law_661 : decode cL_law 661 = .ok (.aload_n 0, 1) := by decide +kernel
theorem dL_law_662 : decode cL_law 662 = .ok (.iload_n 3, 1) := by decide +kernel
theorem dL_law_663 : decode cL_law 663 = .ok (.iconst 1, 1) := by decide +kernel
theorem dL_law_664 : decode cL_law 664 = .ok (.iadd, 1) := by decide +kernel
theorem dL_law_665 : decode cL_law 665 = .ok (.iaload, 1) := by decide +kernel
theorem dL_law_666 : decode cL_law 666 = .ok (.invokevirtual 74, 3) := by decide +kernel
theorem dL_law_669 : decode cL_law 669 = .ok (.aload_n 2, 1) := by decide +kernel
theorem dL_law_670 : decode cL_law 670 = .ok (.aload_n 0, 1) := by decide +kernel
theorem dL_law_671 : decode cL_law 671 = .ok (.iload_n 3, 1) := by decide +kernel
theorem dL_law_672 : decode cL_law 672 = .ok (.iconst 1, 1) := by decide +kernel
theorem dL_law_673 : decode cL_law 673 = .ok (.iadd, 1) := by decide +kernel
theorem dL_law_674 : decode cL_law 674 = .ok (.iaload, 1) := by decide +kernel
theorem dL_law_675 : decode cL_law 675 = .ok (.invokevirtual 77, 3) := by decide +kernel
theorem dL_law_678 : decode cL_law 678 = .ok (.if_icmp .eq 136, 3) := by decide +kernel
theorem dL_law_681 : decode cL_law 681 = .ok (.iconst 0, 1) := by decide +kernel
theorem dL_law_682 : decode cL_law 682 = .ok (.ireturn, 1) := by decide +kernel
theorem dL_law_683 : decode cL_law 683 = .ok (.aload_n 1, 1) := by decide +kernel
theorem dL_law_684 : decode cL_law 684 = .ok (.aload_n 0, 1) := by decide +kernel
theorem dL_law_685 : decode cL_law 685 = .ok (.iload_n 3, 1) := by decide +kernel
theorem dL_law_686 : decode cL_law 686 = .ok (.iconst 1, 1) := by decide +kernel
theorem dL_law_687 : decode cL_law 687 = .ok (.iadd, 1) := by decide +kernel
theorem dL_law_688 : decode cL_law 688 = .ok (.iaload, 1) := by decide +kernel
theorem dL_law_689 : decode cL_law 689 = .ok (.invokevirtual 78, 3) := by decide +kernel
theorem dL_law_692 : decode cL_law 692 = .ok (.aload_n 2, 1) := by decide +kernel
theorem dL_law_693 : decode cL_law 693 = .ok (.aload_n 0, 1) := by decide +kernel
theorem dL_law_694 : decode cL_law 694 = .ok (.iload_n 3, 1) := by decide +kernel
theorem dL_law_695 : decode cL_law 695 = .ok (.iconst 1, 1) := by decide +kernel
theorem dL_law_696 : decode cL_law 696 = .ok (.iadd, 1) := by decide +kernel
theorem dL_law_697 : decode cL_law 697 = .ok (.iaload, 1) := by decide +kernel
theorem dL_law_698 : decode cL_law 698 = .ok (.invokevirtual 81, 3) := by decide +kernel
theorem dL_law_701 : decode cL_law 701 = .ok (.if_icmp .eq 113, 3) := by decide +kernel
theorem dL_law_704 : decode cL_law 704 = .ok (.iconst 0, 1) := by decide +kernel
theorem dL_law_705 : decode cL_law 705 = .ok (.ireturn, 1) := by decide +kernel
theorem dL_law_706 : decode cL_law 706 = .ok (.aload_n 1, 1) := by decide +kernel
theorem dL_law_707 : decode cL_law 707 = .ok (.aload_n 0, 1) := by decide +kernel
theorem dL_law_708 : decode cL_law 708 = .ok (.iload_n 3, 1) := by decide +kernel
theorem dL_law_709 : decode cL_law 709 = .ok (.iconst 1, 1) := by decide +kernel
theorem dL_law_710 : decode cL_law 710 = .ok (.iadd, 1) := by decide +kernel
theorem dL_law_711 : decode cL_law 711 = .ok (.iaload, 1) := by decide +kernel
theorem dL_law_712 : decode cL_law 712 = .ok (.invokevirtual 82, 3) := by decide +kernel
theorem dL_law_715 : decode cL_law 715 = .ok (.aload_n 2, 1) := by decide +kernel
theorem dL_law_716 : decode cL_law 716 = .ok (.aload_n 0, 1) := by decide +kernel
theorem dL_law_717 : decode cL_law 717 = .ok (.iload_n 3, 1) := by decide +kernel
theorem dL_law_718 : decode cL_law 718 = .ok (.iconst 1, 1) := by decide +kernel
theorem dL_law_719 : decode cL_law 719 = .ok (.iadd, 1) := by decide +kernel
theorem dL_law_720 : decode cL_law 720 = .ok (.iaload, 1) := by decide +kernel
theorem dL_law_721 : decode cL_law 721 = .ok (.invokevirtual 85, 3) := by decide +kernel
theorem dL_law_724 : decode cL_law 724 = .ok (.if_icmp .eq 90, 3) := by decide +kernel
theorem dL_law_727 : decode cL_law 727 = .ok (.iconst 0, 1) := by decide +kernel
theorem dL_law_728 : decode cL_law 728 = .ok (.ireturn, 1) := by decide +kernel
theorem dL_law_729 : decode cL_law 729 = .ok (.aload_n 1, 1) := by decide +kernel
theorem dL_law_730 : decode cL_law 730 = .ok (.invokevirtual 86, 3) := by decide +kernel
theorem dL_law_733 : decode cL_law 733 = .ok (.aload_n 2, 1) := by decide +kernel
theorem dL_law_734 : decode cL_law 734 = .ok (.invokevirtual 90, 3) := by decide +kernel
theorem dL_law_737 : decode cL_law 737 = .ok (.if_icmp .eq 77, 3) := by decide +kernel
theorem dL_law_740 : decode cL_law 740 = .ok (.iconst 0, 1) := by decide +kernel
theorem dL_law_741 : decode cL_law 741 = .ok (.ireturn, 1) := by decide +kernel
theorem dL_law_742 : decode cL_law 742 = .ok (.aload_n 1, 1) := by decide +kernel
theorem dL_law_743 : decode cL_law 743 = .ok (.aload_n 0, 1) := by decide +kernel
theorem dL_law_744 : decode cL_law 744 = .ok (.iload_n 3, 1) := by decide +kernel
theorem dL_law_745 : decode cL_law 745 = .ok (.iconst 1, 1) := by decide +kernel
theorem dL_law_746 : decode cL_law 746 = .ok (.iadd, 1) := by decide +kernel
theorem dL_law_747 : decode cL_law 747 = .ok (.iaload, 1) := by decide +kernel
theorem dL_law_748 : decode cL_law 748 = .ok (.invokevirtual 91, 3) := by decide +kernel
theorem dL_law_751 : decode cL_law 751 = .ok (.aload_n 2, 1) := by decide +kernel
theorem dL_law_752 : decode cL_law 752 = .ok (.aload_n 0, 1) := by decide +kernel
theorem dL_law_753 : decode cL_law 753 = .ok (.iload_n 3, 1) := by decide +kernel
theorem dL_law_754 : decode cL_law 754 = .ok (.iconst 1, 1) := by decide +kernel
theorem dL_law_755 : decode cL_law 755 = .ok (.iadd, 1) := by decide +kernel
theorem dL_law_756 : decode cL_law 756 = .ok (.iaload, 1) := by decide +kernel
theorem dL_law_757 : decode cL_law 757 = .ok (.invokevirtual 94, 3) := by decide +kernel
theorem dL_law_760 : decode cL_law 760 = .ok (.if_icmp .eq 54, 3) := by decide +kernel
theorem dL_law_763 : decode cL_law 763 = .ok (.iconst 0, 1) := by decide +kernel
theorem dL_law_764 : decode cL_law 764 = .ok (.ireturn, 1) := by decide +kernel
theorem dL_law_765 : decode cL_law 765 = .ok (.aload_n 1, 1) := by decide +kernel
theorem dL_law_766 : decode cL_law 766 = .ok (.invokevirtual 95, 3) := by decide +kernel
theorem dL_law_769 : decode cL_law 769 = .ok (.aload_n 2, 1) := by decide +kernel
theorem dL_law_770 : decode cL_law 770 = .ok (.invokevirtual 98, 3) := by decide +kernel
theorem dL_law_773 : decode cL_law 773 = .ok (.if_icmp .eq 41, 3) := by decide +kernel
theorem dL_law_776 : decode cL_law 776 = .ok (.iconst 0, 1) := by decide +kernel
theorem dL_law_777 : decode cL_law 777 = .ok (.ireturn, 1) := by decide +kernel
theorem dL_law_778 : decode cL_law 778 = .ok (.aload_n 1, 1) := by decide +kernel
theorem dL_law_779 : decode cL_law 779 = .ok (.aload_n 0, 1) := by decide +kernel
theorem dL_law_780 : decode cL_law 780 = .ok (.iload_n 3, 1) := by decide +kernel
theorem dL_law_781 : decode cL_law 781 = .ok (.iconst 1, 1) := by decide +kernel
theorem dL_law_782 : decode cL_law 782 = .ok (.iadd, 1) := by decide +kernel
theorem dL_law_783 : decode cL_law 783 = .ok (.iaload, 1) := by decide +kernel
theorem dL_law_784 : decode cL_law 784 = .ok (.invokevirtual 99, 3) := by decide +kernel
theorem dL_law_787 : decode cL_law 787 = .ok (.aload_n 2, 1) := by decide +kernel
theorem dL_law_788 : decode cL_law 788 = .ok (.aload_n 0, 1) := by decide +kernel
theorem dL_law_789 : decode cL_law 789 = .ok (.iload_n 3, 1) := by decide +kernel
theorem dL_law_790 : decode cL_law 790 = .ok (.iconst 1, 1) := by decide +kernel
theorem dL_law_791 : decode cL_law 791 = .ok (.iadd, 1) := by decide +kernel
theorem dL_law_792 : decode cL_law 792 = .ok (.iaload, 1) := by decide +kernel
theorem dL_law_793 : decode cL_law 793 = .ok (.invokevirtual 102, 3) := by decide +kernel
theorem dL_law_796 : decode cL_law 796 = .ok (.if_icmp .eq 18, 3) := by decide +kernel
theorem dL_law_799 : decode cL_law 799 = .ok (.iconst 0, 1) := by decide +kernel
theorem dL_law_800 : decode cL_law 800 = .ok (.ireturn, 1) := by decide +kernel
theorem dL_law_801 : decode cL_law 801 = .ok (.aload_n 1, 1) := by decide +kernel
theorem dL_law_802 : decode cL_law 802 = .ok (.invokevirtual 103, 3) := by decide +kernel
theorem dL_law_805 : decode cL_law 805 = .ok (.aload_n 2, 1) := by decide +kernel
theorem dL_law_806 : decode cL_law 806 = .ok (.invokevirtual 106, 3) := by decide +kernel
theorem dL_law_809 : decode cL_law 809 = .ok (.if_icmp .eq 5, 3) := by decide +kernel
theorem dL_law_812 : decode cL_law 812 = .ok (.iconst 0, 1) := by decide +kernel
theorem dL_law_813 : decode cL_law 813 = .ok (.ireturn, 1) := by decide +kernel
theorem dL_law_814 : decode cL_law 814 = .ok (.iinc 3 7, 3) := by decide +kernel
theorem dL_law_817 : decode cL_law 817 = .ok (.goto (-799), 3) := by decide +kernel
theorem dL_law_820 : decode cL_law 820 = .ok (.iconst 1, 1) := by decide +kernel
theorem dL_law_821 : decode cL_law 821 = .ok (.ireturn, 1) := by decide +kernel
end
section
/-! THE JUDGEMENT: a fixed number of cells at addresses ad c (c an Int), what is in cell c is a function cd c of its row of ints; no cell comes or goes. -/
abbrev zM : Type := Int → Int → Int
def zup (μ : zM) (c i z : Int) : zM := fun c' i' => if c' = c ∧ i' = i then z else μ c' i'
def iZ (z : Int) : Int32 := Int32.ofInt z
abbrev zV : Type := Heap → List Loc → Nat → Array Slot → List Value → Prop
/-- the walk's judgement, the heap at its beginning, the cells that may be written, how many locals -/
abbrev zG : Type := zV × Heap × (Nat → Prop) × Nat
/-- the classes' numbers, the array classes, how many cells, their addresses, what they hold -/
abbrev zO : Type := va_G × (Nat → ClassId) × Nat × (Int → Nat) × (Int → (Int → Int) → va_E)
abbrev zcl : List vw_C := [(RX0, TX0, 8), (RX1, TX1, 8), (RX2, TX2, 12), (RX3, TX3, 4), (RX4, TX4, 2), (RX5, TX5, 5), (RX6, TX6, 8), (RX7, TX7, 5), (RX8, TX8, 16)]
abbrev zty (ca : Nat → ClassId) : List (ClassId × FieldType) := [(ca 0, .int), (ca 1, .char), (ca 2, .object RX6), (ca 3, .object RX0), (ca 4, .object RX2)]
def zws (ω : zO) (μ : zM) : va_W := (List.range ω.2.2.1).map (fun k : Nat => (ω.2.2.2.1 (k : Int), ω.2.2.2.2 (k : Int) (μ (k : Int))))
def zH (ω : zO) (A : Nat → Prop) (μ : zM) (H : Heap) : Prop := va_P ω.1 zcl (zws ω μ) H ∧ va_D A (zws ω μ)
def zNst : List Cond := [.methodLinkNest RX2 32 yX1_init RX7, .methodLinkNest RX2 37 yX6_init RX7, .methodLinkNest RX2 38 yX0_init RX7, .methodLinkNest RX7 28 yX5_init RX7, .methodLinkNest RX7 35 yX3_init RX7, .methodLinkNest RX2 65 yX7_isPort RX7, .methodLinkNest RX2 69 yX7_isIn RX7, .methodLinkNest RX2 149 yX7_divideUp RX7, .methodLinkNest RX5 42 yX7_isIn RX7]
def zN (U : State) : Prop := ∀ w ∈ zNst, va_Nw w U
def zK (ω : zO) (U : State) : Prop := va_K ω.1 zcl (zty ω.2.1) U ∧ zN U
theorem zNst_tab : ∀ w ∈ zNst, w.onTables = true := by
  intro w hw
  simp only [zNst, List.mem_cons, List.not_mem_nil, or_false] at hw
  rcases hw with h | h | h | h | h | h | h | h | h <;> subst h <;> rfl
theorem zN.warm {s U : State} (hW : s.WarmedH U.vm) (h : zN s) : zN U := by
  intro w hw
  have h1 := h w hw
  simp only [zNst, List.mem_cons, List.not_mem_nil, or_false] at hw
  rcases hw with q | q | q | q | q | q | q | q | q <;> subst q <;> exact va_Nw.warmM hW h1
theorem zN.same {u U : State} (hvm : u.vm = U.vm) (h : zN u) : zN U := fun w hw => va_Nw.same (zNst_tab w hw) hvm (h w hw)
theorem zK.warm {ω : zO} {s U : State} (hW : s.WarmedH U.vm) (h : zK ω s) : zK ω U := ⟨va_K.moved hW.alike h.1, h.2.warm hW⟩
theorem zK.same {ω : zO} {u U : State} (hvm : u.vm = U.vm) (h : zK ω u) : zK ω U := ⟨va_K.moved (by rw [hvm]; exact Vm.Alike.refl _) h.1, h.2.same hvm⟩
/-! locals: the first pair of a slot counts -/
def zlk : List (Nat × Value) → Nat → Option Value
  | [], _ => none
  | q :: l, k => if q.1 = k then some q.2 else zlk l k
def zL (ls : Array Slot) (nL : Nat) (L : List (Nat × Value)) : Prop := ls.size = nL ∧ lv_wf ls ∧ ∀ (k : Nat) (v : Value), zlk L k = some v → ls[k]? = some (.val v)
def zcat (L : List (Nat × Value)) : Nat → Bool
  | 0 => true
  | i + 1 => match zlk L i with
    | some v => v.category == 1
    | none => true
def zdd (L : List (Nat × Value)) : List (Nat × Value) := L.filterMap (fun q => (zlk L q.1).map (fun v => (q.1, v)))
theorem zlk_mem {L : List (Nat × Value)} {k : Nat} {v : Value} (h : zlk L k = some v) : (k, v) ∈ L := by
  induction L with
  | nil => simp [zlk] at h
  | cons q l ih =>
    unfold zlk at h
    by_cases hq : q.1 = k
    · rw [if_pos hq] at h
      cases h
      subst hq
      exact List.mem_cons_self
    · rw [if_neg hq] at h
      exact List.mem_cons_of_mem _ (ih h)
theorem zdd_mem {L : List (Nat × Value)} {q : Nat × Value} : q ∈ zdd L ↔ zlk L q.1 = some q.2 := by
  constructor
  · intro h
    obtain ⟨a, ha, hb⟩ := List.mem_filterMap.mp h
    cases hz : zlk L a.1 with
    | none => rw [hz] at hb; cases hb
    | some v => rw [hz] at hb; cases hb; exact hz
  · intro h
    refine List.mem_filterMap.mpr ⟨q, zlk_mem h, ?_⟩
    rw [h]
    rfl
theorem zL.has {ls : Array Slot} {nL : Nat} {L : List (Nat × Value)} (h : zL ls nL L) : lv_has ls nL (zdd L) := ⟨h.1, h.2.1, fun q hq => h.2.2 q.1 q.2 (zdd_mem.mp hq)⟩
theorem zL.of {ls : Array Slot} {nL : Nat} {L : List (Nat × Value)} (h : lv_has ls nL L) : zL ls nL L := ⟨h.1, h.2.1, fun k v hk => h.2.2 (k, v) (zlk_mem hk)⟩
theorem zL.st {ls : Array Slot} {nL i : Nat} {v : Value} {L : List (Nat × Value)} (hc : zcat L i = true) (h : lv_has ls nL ((i, v) :: (zdd L).filter (fun q => !(q.1 == i) && !(q.1 + 1 == i && q.2.category == 2)))) : zL ls nL ((i, v) :: L) := by
  refine ⟨h.1, h.2.1, fun k v' hk => ?_⟩
  unfold zlk at hk
  by_cases hq : i = k
  · rw [if_pos hq] at hk
    cases hk
    subst hq
    exact h.2.2 _ List.mem_cons_self
  · rw [if_neg hq] at hk
    refine h.2.2 (k, v') (List.mem_cons_of_mem _ (List.mem_filter.mpr ⟨zdd_mem.mpr hk, ?_⟩))
    have h1 : (k == i) = false := by simpa using fun e => hq e.symm
    simp only [h1, Bool.not_false, Bool.true_and, Bool.not_eq_true']
    by_cases h2 : k + 1 = i
    · subst h2
      simp only [zcat, hk, beq_iff_eq] at hc
      simp [hc]
    · have : (k + 1 == i) = false := by simpa using h2
      simp [this]
theorem zL.st2 {ls : Array Slot} {nL i : Nat} {v : Value} {L : List (Nat × Value)} (hc : zcat L i = true) (hn : zlk L (i + 1) = none) (h : lv_has ls nL ((i, v) :: (zdd L).filter (fun q => !(q.1 == i) && (!(q.1 == i + 1) && !(q.1 + 1 == i && q.2.category == 2))))) : zL ls nL ((i, v) :: L) := by
  refine ⟨h.1, h.2.1, fun k v' hk => ?_⟩
  unfold zlk at hk
  by_cases hq : i = k
  · rw [if_pos hq] at hk
    cases hk
    subst hq
    exact h.2.2 _ List.mem_cons_self
  · rw [if_neg hq] at hk
    refine h.2.2 (k, v') (List.mem_cons_of_mem _ (List.mem_filter.mpr ⟨zdd_mem.mpr hk, ?_⟩))
    have h1 : (k == i) = false := by simpa using fun e => hq e.symm
    have h3 : (k == i + 1) = false := by
      have : ¬ k = i + 1 := fun e => by rw [e, hn] at hk; cases hk
      simpa using this
    simp only [h1, h3, Bool.not_false, Bool.true_and, Bool.not_eq_true']
    by_cases h2 : k + 1 = i
    · subst h2
      simp only [zcat, hk, beq_iff_eq] at hc
      simp [hc]
    · have : (k + 1 == i) = false := by simpa using h2
      simp [this]
/-- of two lists of locals the first says no more -/
def zsub : List (Nat × Value) → List (Nat × Value) → Prop
  | [], _ => True
  | q :: l, L => zlk L q.1 = some q.2 ∧ zsub l L
theorem zsub_lk {l L : List (Nat × Value)} (h : zsub l L) {k : Nat} {v : Value} (hk : zlk l k = some v) : zlk L k = some v := by
  induction l with
  | nil => simp [zlk] at hk
  | cons q l ih =>
    unfold zlk at hk
    by_cases hq : q.1 = k
    · rw [if_pos hq] at hk
      cases hk
      rw [← hq]
      exact h.1
    · rw [if_neg hq] at hk
      exact ih h.2 hk
def Z (Γ : zG) (ω : zO) (μ : zM) (pc : Nat) (L : List (Nat × Value)) (st : List Value) : Prop :=
  ∀ (H : Heap) (locs : List Loc) (ls : Array Slot), zH ω Γ.2.2.1 μ H → va_S Γ.2.2.1 Γ.2.1 H locs → zL ls Γ.2.2.2 L → Γ.1 H locs pc ls st
/-- a method's end: what it answers, and the memory behind it -/
def zQ (ω : zO) (A : Nat → Prop) (post : Option Value → zM → Prop) : Array Value → State → Outcome → State → Prop := fun _ st oc t => (∃ (v : Option Value) (μ' : zM), oc = .returned v ∧ post v μ' ∧ zH ω A μ' t.heap) ∧ va_F A st t
def zP (ω : zO) (A : Nat → Prop) (μ : zM) : State → Prop := fun U => zK ω U ∧ zH ω A μ U.heap
/-- what a walk knows of its machine -/
def zC (Γ : zG) (ω : zO) (own : String) (cc : ByteArray) (nL fr lo : Nat) (rt : Option FieldType) (post : Option Value → zM → Prop) : Prop :=
  ∃ (p : Program) (l : Launch) (e : Env) (R : Room) (s : State) (m : MethodId) (args : Array Value) (below : List Frame) (meth : Method) (c : Code),
    (Γ.1 = fun H locs pc ls st => W p l e R s m args below meth c H locs 0 0 (MQ below (zQ ω Γ.2.2.1 post) args s 0 0 Γ.2.2.1) (F0 m pc ls st)) ∧ Γ.2.1 = s.heap ∧ Γ.2.2.2 = nL ∧ p.tables.exec = Jvm.exec ∧ c.code = cc ∧ c.maxLocals = nL ∧ s.vm.findClass own = some m.cls ∧ (∀ w ∈ AL, w.before args s = true) ∧ zK ω s ∧ meth.sig.returnType = rt ∧ meth.locks = false ∧ fr ≤ R.frames ∧ lo ≤ R.locals
/-- a contract -/
abbrev zMet (l : Launch) (ω : zO) (A : Nat → Prop) (y : MethodName) (cc : ByteArray) (nL : Nat) (rt : Option FieldType) (fr lo : Nat) (vs : List Value) (μ : zM) (post : Option Value → zM → Prop) : Prop :=
  Met l y (.code y cc nL rt :: AL) { frames := fr, cells := 0, slots := 0, locals := lo } (va_Pc vs (zP ω A μ)) (zQ ω A post) 0 0 A
theorem zMet_of {l : Launch} {ω : zO} {A : Nat → Prop} {y : MethodName} {cc : ByteArray} {nL : Nat} {rt : Option FieldType} {fr lo : Nat} {vs : List Value} {μ : zM} {post : Option Value → zM → Prop} (hy : plainName y.cls = true) (hn : (lg_sl vs).length ≤ nL)
    (body : ∀ Γ : zG, zC Γ ω y.cls cc nL fr lo rt post → Z Γ ω μ 0 (lv_args 0 vs) []) : zMet l ω A y cc nL rt fr lo vs μ post := by
  refine Met.ofW (cc := cc) (maxL := nL) (ret := rt) hy rfl ?_
  intro p e s m args below meth c s₁ B hml hv
  obtain ⟨rfl, hK, hH⟩ := hv
  have hts := atoms_spec (ws := .code y cc nL rt :: AL) B.pre
  have hl := lv_entry vs hn
  rw [lg_entry_eq]
  exact body (fun H locs pc ls st => W p l e _ s m vs.toArray below meth c H locs 0 0 (MQ below (zQ ω A post) vs.toArray s 0 0 A) (F0 m pc ls st), s.heap, A, nL)
    ⟨p, l, e, _, s, m, vs.toArray, below, meth, c, rfl, rfl, rfl, B.exec, B.bytes, hml, findClass_of_methodNamed B.named, fun w h => hts w (List.mem_cons_of_mem _ h), hK, B.returns, B.notSynchronized, Nat.le_refl _, Nat.le_refl _⟩
    s.heap [] _ hH va_S.rf (zL.of hl)
/-! the world's list -/
theorem zws_at {ω : zO} {μ : zM} {c : Int} (h0 : 0 ≤ c) (hn : c < (ω.2.2.1 : Int)) : (zws ω μ)[c.toNat]? = some (ω.2.2.2.1 c, ω.2.2.2.2 c (μ c)) := by
  have h1 : c.toNat < ω.2.2.1 := by omega
  have h2 : ((c.toNat : Nat) : Int) = c := Int.toNat_of_nonneg h0
  simp only [zws, List.getElem?_map, List.getElem?_range h1, Option.map_some, h2]
theorem zws_set {ω : zO} {μ μ' : zM} {c : Int} {e : va_E} (h0 : 0 ≤ c) (hn : c < (ω.2.2.1 : Int)) (he : ω.2.2.2.2 c (μ' c) = e) (ho : ∀ c', c' ≠ c → μ' c' = μ c') : (zws ω μ).set c.toNat (ω.2.2.2.1 c, e) = zws ω μ' := by
  have h1 : c.toNat < ω.2.2.1 := by omega
  have h2 : ((c.toNat : Nat) : Int) = c := Int.toNat_of_nonneg h0
  apply List.ext_getElem?
  intro k
  rw [List.getElem?_set]
  by_cases hk : c.toNat = k
  · subst hk
    rw [if_pos rfl, if_pos (by simpa [zws] using h1), zws_at h0 hn, he]
  · rw [if_neg hk]
    by_cases hk2 : k < ω.2.2.1
    · have h3 : ((k : Nat) : Int) ≠ c := fun h => hk (by omega)
      simp only [zws, List.getElem?_map, List.getElem?_range hk2, Option.map_some, ho _ h3]
    · simp only [zws, List.getElem?_map, List.getElem?_eq_none (l := List.range ω.2.2.1) (by simpa using hk2), Option.map_none]
theorem zup_o {μ : zM} {c i z c' : Int} (h : c' ≠ c) : zup μ c i z c' = μ c' := by
  funext i'
  simp only [zup, h, false_and, if_false]
theorem zup_c {μ : zM} {c i z : Int} : zup μ c i z c = fun i' => if i' = i then z else μ c i' := by
  funext i'
  simp only [zup, true_and]
theorem zup_s {μ : zM} {c i z : Int} : zup μ c i z c i = z := by simp [zup]
theorem zup_n {μ : zM} {c i z c' i' : Int} (h : c' ≠ c ∨ i' ≠ i) : zup μ c i z c' i' = μ c' i' := by
  unfold zup
  rw [if_neg]
  omega
theorem zws_ad {ω : zO} {μ μ' : zM} (k : Nat) (q : Nat × va_E) (h : (zws ω μ')[k]? = some q) : ∃ q0, (zws ω μ)[k]? = some q0 ∧ q0.1 = q.1 := by
  by_cases hk : k < ω.2.2.1
  · simp only [zws, List.getElem?_map, List.getElem?_range hk, Option.map_some, Option.some.injEq] at h ⊢
    exact ⟨_, rfl, by rw [← h]⟩
  · simp [zws, List.getElem?_eq_none (l := List.range ω.2.2.1) (by simpa using hk)] at h
/-! ints -/
theorem iZ_add (a b : Int) : iZ a + iZ b = iZ (a + b) := (Int32.ofInt_add a b).symm
theorem iZ_sub (a b : Int) : iZ a - iZ b = iZ (a - b) := (Int32.ofInt_sub a b).symm
theorem iZ_mul (a b : Int) : iZ a * iZ b = iZ (a * b) := (Int32.ofInt_mul a b).symm
theorem iZ_neg (a : Int) : -iZ a = iZ (-a) := (Int32.ofInt_neg a).symm
theorem iZ_toInt {a : Int} (h : -2147483648 ≤ a ∧ a ≤ 2147483647) : (iZ a).toInt = a := Int32.toInt_ofInt_of_le (by simpa using h.1) (by have := h.2; show a < _; simp; omega)
theorem iZ_of (x : Int32) : ∃ z : Int, (-2147483648 ≤ z ∧ z ≤ 2147483647) ∧ x = iZ z := by
  refine ⟨x.toInt, ⟨by have := x.le_toInt; simpa using this, by have := x.toInt_lt; simp at this; omega⟩, (Int32.ofInt_toInt x).symm⟩
theorem iZ_lt {a b : Int} (ha : -2147483648 ≤ a ∧ a ≤ 2147483647) (hb : -2147483648 ≤ b ∧ b ≤ 2147483647) : iZ a < iZ b ↔ a < b := by rw [Int32.lt_iff_toInt_lt, iZ_toInt ha, iZ_toInt hb]
theorem iZ_le {a b : Int} (ha : -2147483648 ≤ a ∧ a ≤ 2147483647) (hb : -2147483648 ≤ b ∧ b ≤ 2147483647) : iZ a ≤ iZ b ↔ a ≤ b := by rw [Int32.le_iff_toInt_le, iZ_toInt ha, iZ_toInt hb]
theorem iZ_eq {a b : Int} (ha : -2147483648 ≤ a ∧ a ≤ 2147483647) (hb : -2147483648 ≤ b ∧ b ≤ 2147483647) : iZ a = iZ b ↔ a = b := by
  constructor
  · intro h
    have := congrArg Int32.toInt h
    rwa [iZ_toInt ha, iZ_toInt hb] at this
  · intro h; rw [h]
theorem iZ_0 : iZ 0 = 0 := rfl
theorem iZ_clamp {a : Int} (h0 : 0 ≤ a) (h : a ≤ 2147483647) : (iZ a).toNatClampNeg = a.toNat := by
  show (iZ a).toInt.toNat = _
  rw [iZ_toInt ⟨by omega, h⟩]
theorem iZ_in {a : Int} {n : Nat} (h0 : 0 ≤ a) (hn : a < (n : Int)) (hb : a ≤ 2147483647) : vp_in (iZ a) n := by
  refine vp_in_iff.mpr ?_
  rw [iZ_toInt ⟨by omega, hb⟩]
  exact ⟨h0, hn⟩
theorem iZ_div {a b : Int} (ha : 0 ≤ a ∧ a ≤ 2147483647) (hb : 0 < b ∧ b ≤ 2147483647) : iZ a / iZ b = iZ (a / b) := by
  have h1 : ((iZ a / iZ b).toInt) = (iZ a).toInt.tdiv (iZ b).toInt := by
    rw [Int32.toInt_div, iZ_toInt ⟨by omega, ha.2⟩, iZ_toInt ⟨by omega, hb.2⟩]
    rw [Int.tdiv_eq_ediv_of_nonneg ha.1]
    have h2 : a / b ≤ a := Int.ediv_le_self b ha.1
    have h3 : 0 ≤ a / b := Int.ediv_nonneg ha.1 (by omega)
    rw [Int.bmod_eq_of_le (by omega) (by omega)]
  rw [iZ_toInt ⟨by omega, ha.2⟩, iZ_toInt ⟨by omega, hb.2⟩, Int.tdiv_eq_ediv_of_nonneg ha.1] at h1
  apply Int32.toInt.inj
  have h2 : a / b ≤ a := Int.ediv_le_self b ha.1
  have h3 : 0 ≤ a / b := Int.ediv_nonneg ha.1 (by omega)
  rw [h1, iZ_toInt ⟨by omega, by omega⟩]

section ZR
variable {Γ : zG} {ω : zO} {own : String} {cc : ByteArray} {nL fr lo : Nat} {rt : Option FieldType} {post : Option Value → zM → Prop} {μ : zM} {pc : Nat} {L : List (Nat × Value)} {st : List Value}
theorem z_iload_n (h : zC Γ ω own cc nL fr lo rt post) {k : Fin 4} {x : Int32} (hdg : decode cc pc = .ok (.iload_n k, 1)) (hl0 : zlk L k = some (.int x)) (kk : Z Γ ω μ (pc + 1) L (.int x :: st)) : Z Γ ω μ pc L st := by
  obtain ⟨p, l, e, R, s, m, args, below, meth, c, hV, hH0, hnl, hx, hb, hml, hown, hts, hK, hr, hlk, hfr, hlo⟩ := h
  intro H locs ls hH hS hl
  rw [hV]
  have K := kk H locs ls hH hS hl
  rw [hV] at K
  refine lv_iload_n hx hb hdg rfl (hl.2.2 _ _ hl0) ?_
  exact K
theorem z_iload (h : zC Γ ω own cc nL fr lo rt post) {k : Nat} {x : Int32} (hdg : decode cc pc = .ok (.iload k, 2)) (hl0 : zlk L k = some (.int x)) (kk : Z Γ ω μ (pc + 2) L (.int x :: st)) : Z Γ ω μ pc L st := by
  obtain ⟨p, l, e, R, s, m, args, below, meth, c, hV, hH0, hnl, hx, hb, hml, hown, hts, hK, hr, hlk, hfr, hlo⟩ := h
  intro H locs ls hH hS hl
  rw [hV]
  have K := kk H locs ls hH hS hl
  rw [hV] at K
  refine lv_iload hx hb hdg (hl.2.2 _ _ hl0) ?_
  exact K
theorem z_istore_n (h : zC Γ ω own cc nL fr lo rt post) {k : Fin 4} {x : Int32} (hdg : decode cc pc = .ok (.istore_n k, 1)) (hn : (k : Nat) < nL) (hc : zcat L (k : Nat) = true) (kk : Z Γ ω μ (pc + 1) (((k : Nat), .int x) :: L) st) : Z Γ ω μ pc L (.int x :: st) := by
  obtain ⟨p, l, e, R, s, m, args, below, meth, c, hV, hH0, hnl, hx, hb, hml, hown, hts, hK, hr, hlk, hfr, hlo⟩ := h
  intro H locs ls hH hS hl
  rw [hV]
  refine lv_istore_n hx hb hdg rfl hl.has (by omega) rfl (fun ls9 h9 => ?_)
  have K := kk H locs ls9 hH hS (zL.st hc h9)
  rw [hV] at K
  exact K
theorem z_istore (h : zC Γ ω own cc nL fr lo rt post) {k : Nat} {x : Int32} (hdg : decode cc pc = .ok (.istore k, 2)) (hn : k < nL) (hc : zcat L k = true) (kk : Z Γ ω μ (pc + 2) ((k, .int x) :: L) st) : Z Γ ω μ pc L (.int x :: st) := by
  obtain ⟨p, l, e, R, s, m, args, below, meth, c, hV, hH0, hnl, hx, hb, hml, hown, hts, hK, hr, hlk, hfr, hlo⟩ := h
  intro H locs ls hH hS hl
  rw [hV]
  refine lv_istore hx hb hdg hl.has (by omega) rfl (fun ls9 h9 => ?_)
  have K := kk H locs ls9 hH hS (zL.st hc h9)
  rw [hV] at K
  exact K
theorem z_aload_n (h : zC Γ ω own cc nL fr lo rt post) {k : Fin 4} {x : Nat} (hdg : decode cc pc = .ok (.aload_n k, 1)) (hl0 : zlk L k = some (.ref x)) (kk : Z Γ ω μ (pc + 1) L (.ref x :: st)) : Z Γ ω μ pc L st := by
  obtain ⟨p, l, e, R, s, m, args, below, meth, c, hV, hH0, hnl, hx, hb, hml, hown, hts, hK, hr, hlk, hfr, hlo⟩ := h
  intro H locs ls hH hS hl
  rw [hV]
  have K := kk H locs ls hH hS hl
  rw [hV] at K
  refine lv_aload_n hx hb hdg rfl (hl.2.2 _ _ hl0) ?_
  exact K
theorem z_aload (h : zC Γ ω own cc nL fr lo rt post) {k : Nat} {x : Nat} (hdg : decode cc pc = .ok (.aload k, 2)) (hl0 : zlk L k = some (.ref x)) (kk : Z Γ ω μ (pc + 2) L (.ref x :: st)) : Z Γ ω μ pc L st := by
  obtain ⟨p, l, e, R, s, m, args, below, meth, c, hV, hH0, hnl, hx, hb, hml, hown, hts, hK, hr, hlk, hfr, hlo⟩ := h
  intro H locs ls hH hS hl
  rw [hV]
  have K := kk H locs ls hH hS hl
  rw [hV] at K
  refine lv_aload hx hb hdg (hl.2.2 _ _ hl0) ?_
  exact K
theorem z_astore_n (h : zC Γ ω own cc nL fr lo rt post) {k : Fin 4} {x : Nat} (hdg : decode cc pc = .ok (.astore_n k, 1)) (hn : (k : Nat) < nL) (hc : zcat L (k : Nat) = true) (kk : Z Γ ω μ (pc + 1) (((k : Nat), .ref x) :: L) st) : Z Γ ω μ pc L (.ref x :: st) := by
  obtain ⟨p, l, e, R, s, m, args, below, meth, c, hV, hH0, hnl, hx, hb, hml, hown, hts, hK, hr, hlk, hfr, hlo⟩ := h
  intro H locs ls hH hS hl
  rw [hV]
  refine lv_astore_n hx hb hdg rfl hl.has (by omega) rfl (fun ls9 h9 => ?_)
  have K := kk H locs ls9 hH hS (zL.st hc h9)
  rw [hV] at K
  exact K
theorem z_astore (h : zC Γ ω own cc nL fr lo rt post) {k : Nat} {x : Nat} (hdg : decode cc pc = .ok (.astore k, 2)) (hn : k < nL) (hc : zcat L k = true) (kk : Z Γ ω μ (pc + 2) ((k, .ref x) :: L) st) : Z Γ ω μ pc L (.ref x :: st) := by
  obtain ⟨p, l, e, R, s, m, args, below, meth, c, hV, hH0, hnl, hx, hb, hml, hown, hts, hK, hr, hlk, hfr, hlo⟩ := h
  intro H locs ls hH hS hl
  rw [hV]
  refine lv_astore hx hb hdg hl.has (by omega) rfl (fun ls9 h9 => ?_)
  have K := kk H locs ls9 hH hS (zL.st hc h9)
  rw [hV] at K
  exact K
theorem z_fload_n (h : zC Γ ω own cc nL fr lo rt post) {k : Fin 4} {x : UInt32} (hdg : decode cc pc = .ok (.fload_n k, 1)) (hl0 : zlk L k = some (.float x)) (kk : Z Γ ω μ (pc + 1) L (.float x :: st)) : Z Γ ω μ pc L st := by
  obtain ⟨p, l, e, R, s, m, args, below, meth, c, hV, hH0, hnl, hx, hb, hml, hown, hts, hK, hr, hlk, hfr, hlo⟩ := h
  intro H locs ls hH hS hl
  rw [hV]
  have K := kk H locs ls hH hS hl
  rw [hV] at K
  refine lv_fload_n hx hb hdg rfl (hl.2.2 _ _ hl0) ?_
  exact K
theorem z_fstore_n (h : zC Γ ω own cc nL fr lo rt post) {k : Fin 4} {x : UInt32} (hdg : decode cc pc = .ok (.fstore_n k, 1)) (hn : (k : Nat) < nL) (hc : zcat L (k : Nat) = true) (kk : Z Γ ω μ (pc + 1) (((k : Nat), .float x) :: L) st) : Z Γ ω μ pc L (.float x :: st) := by
  obtain ⟨p, l, e, R, s, m, args, below, meth, c, hV, hH0, hnl, hx, hb, hml, hown, hts, hK, hr, hlk, hfr, hlo⟩ := h
  intro H locs ls hH hS hl
  rw [hV]
  refine lv_fstore_n hx hb hdg rfl hl.has (by omega) rfl (fun ls9 h9 => ?_)
  have K := kk H locs ls9 hH hS (zL.st hc h9)
  rw [hV] at K
  exact K
theorem z_fstore (h : zC Γ ω own cc nL fr lo rt post) {k : Nat} {x : UInt32} (hdg : decode cc pc = .ok (.fstore k, 2)) (hn : k < nL) (hc : zcat L k = true) (kk : Z Γ ω μ (pc + 2) ((k, .float x) :: L) st) : Z Γ ω μ pc L (.float x :: st) := by
  obtain ⟨p, l, e, R, s, m, args, below, meth, c, hV, hH0, hnl, hx, hb, hml, hown, hts, hK, hr, hlk, hfr, hlo⟩ := h
  intro H locs ls hH hS hl
  rw [hV]
  refine lv_fstore hx hb hdg hl.has (by omega) rfl (fun ls9 h9 => ?_)
  have K := kk H locs ls9 hH hS (zL.st hc h9)
  rw [hV] at K
  exact K
theorem z_lload_n (h : zC Γ ω own cc nL fr lo rt post) {k : Fin 4} {x : Int64} (hdg : decode cc pc = .ok (.lload_n k, 1)) (hl0 : zlk L k = some (.long x)) (kk : Z Γ ω μ (pc + 1) L (.long x :: st)) : Z Γ ω μ pc L st := by
  obtain ⟨p, l, e, R, s, m, args, below, meth, c, hV, hH0, hnl, hx, hb, hml, hown, hts, hK, hr, hlk, hfr, hlo⟩ := h
  intro H locs ls hH hS hl
  rw [hV]
  have K := kk H locs ls hH hS hl
  rw [hV] at K
  refine lv_lload_n hx hb hdg rfl (hl.2.2 _ _ hl0) ?_
  exact K
theorem z_lload (h : zC Γ ω own cc nL fr lo rt post) {k : Nat} {x : Int64} (hdg : decode cc pc = .ok (.lload k, 2)) (hl0 : zlk L k = some (.long x)) (kk : Z Γ ω μ (pc + 2) L (.long x :: st)) : Z Γ ω μ pc L st := by
  obtain ⟨p, l, e, R, s, m, args, below, meth, c, hV, hH0, hnl, hx, hb, hml, hown, hts, hK, hr, hlk, hfr, hlo⟩ := h
  intro H locs ls hH hS hl
  rw [hV]
  have K := kk H locs ls hH hS hl
  rw [hV] at K
  refine lv_lload hx hb hdg (hl.2.2 _ _ hl0) ?_
  exact K
theorem z_lstore_n (h : zC Γ ω own cc nL fr lo rt post) {k : Fin 4} {x : Int64} (hdg : decode cc pc = .ok (.lstore_n k, 1)) (hn : (k : Nat) + 1 < nL) (hc : zcat L (k : Nat) = true) (hn2 : zlk L ((k : Nat) + 1) = none) (kk : Z Γ ω μ (pc + 1) (((k : Nat), .long x) :: L) st) : Z Γ ω μ pc L (.long x :: st) := by
  obtain ⟨p, l, e, R, s, m, args, below, meth, c, hV, hH0, hnl, hx, hb, hml, hown, hts, hK, hr, hlk, hfr, hlo⟩ := h
  intro H locs ls hH hS hl
  rw [hV]
  refine lv_lstore_n hx hb hdg rfl hl.has (by omega) rfl (fun ls9 h9 => ?_)
  have K := kk H locs ls9 hH hS (zL.st2 hc hn2 h9)
  rw [hV] at K
  exact K
theorem z_lstore (h : zC Γ ω own cc nL fr lo rt post) {k : Nat} {x : Int64} (hdg : decode cc pc = .ok (.lstore k, 2)) (hn : k + 1 < nL) (hc : zcat L k = true) (hn2 : zlk L (k + 1) = none) (kk : Z Γ ω μ (pc + 2) ((k, .long x) :: L) st) : Z Γ ω μ pc L (.long x :: st) := by
  obtain ⟨p, l, e, R, s, m, args, below, meth, c, hV, hH0, hnl, hx, hb, hml, hown, hts, hK, hr, hlk, hfr, hlo⟩ := h
  intro H locs ls hH hS hl
  rw [hV]
  refine lv_lstore hx hb hdg hl.has (by omega) rfl (fun ls9 h9 => ?_)
  have K := kk H locs ls9 hH hS (zL.st2 hc hn2 h9)
  rw [hV] at K
  exact K
theorem z_iinc (h : zC Γ ω own cc nL fr lo rt post) {k : Nat} {n x : Int} (hdg : decode cc pc = .ok (.iinc k n, 3)) (hl0 : zlk L k = some (.int (iZ x))) (hn : k < nL) (hc : zcat L k = true) (kk : Z Γ ω μ (pc + 3) ((k, .int (iZ (x + n))) :: L) st) : Z Γ ω μ pc L st := by
  obtain ⟨p, l, e, R, s, m, args, below, meth, c, hV, hH0, hnl, hx, hb, hml, hown, hts, hK, hr, hlk, hfr, hlo⟩ := h
  intro H locs ls hH hS hl
  rw [hV]
  obtain ⟨j, hj⟩ := List.getElem?_of_mem (zdd_mem (q := (k, .int (iZ x))) |>.mpr hl0)
  refine lv_iinc hx hb hdg hl.has hj (iZ_add x n) (by omega) rfl (fun ls9 h9 => ?_)
  have K := kk H locs ls9 hH hS (zL.st hc h9)
  rw [hV] at K
  exact K
theorem z_iconst (h : zC Γ ω own cc nL fr lo rt post) {n : Int} (hdg : decode cc pc = .ok (.iconst n, 1)) (kk : Z Γ ω μ (pc + 1) L (.int (iZ n) :: st)) : Z Γ ω μ pc L st := by
  obtain ⟨p, l, e, R, s, m, args, below, meth, c, hV, hH0, hnl, hx, hb, hml, hown, hts, hK, hr, hlk, hfr, hlo⟩ := h
  intro H locs ls hH hS hl
  rw [hV]
  have K := kk H locs ls hH hS hl
  rw [hV] at K
  refine lv_iconst hx hb hdg rfl ?_
  exact K
theorem z_bipush (h : zC Γ ω own cc nL fr lo rt post) {n : Int} (hdg : decode cc pc = .ok (.bipush n, 2)) (hv : (Int8.ofInt n).toInt32 = iZ n) (kk : Z Γ ω μ (pc + 2) L (.int (iZ n) :: st)) : Z Γ ω μ pc L st := by
  obtain ⟨p, l, e, R, s, m, args, below, meth, c, hV, hH0, hnl, hx, hb, hml, hown, hts, hK, hr, hlk, hfr, hlo⟩ := h
  intro H locs ls hH hS hl
  rw [hV]
  have K := kk H locs ls hH hS hl
  rw [hV] at K
  refine lv_bipush hx hb hdg hv ?_
  exact K
theorem z_sipush (h : zC Γ ω own cc nL fr lo rt post) {n : Int} (hdg : decode cc pc = .ok (.sipush n, 3)) (hv : (Int16.ofInt n).toInt32 = iZ n) (kk : Z Γ ω μ (pc + 3) L (.int (iZ n) :: st)) : Z Γ ω μ pc L st := by
  obtain ⟨p, l, e, R, s, m, args, below, meth, c, hV, hH0, hnl, hx, hb, hml, hown, hts, hK, hr, hlk, hfr, hlo⟩ := h
  intro H locs ls hH hS hl
  rw [hV]
  have K := kk H locs ls hH hS hl
  rw [hV] at K
  refine lv_sipush hx hb hdg hv ?_
  exact K
theorem z_ldc (h : zC Γ ω own cc nL fr lo rt post) {i : Nat} {v : Int32} (n : Int) (hw : Cond.constant own i v ∈ AL) (hv : v = iZ n) (hdg : decode cc pc = .ok (.ldc i, 2)) (kk : Z Γ ω μ (pc + 2) L (.int (iZ n) :: st)) : Z Γ ω μ pc L st := by
  obtain ⟨p, l, e, R, s, m, args, below, meth, c, hV, hH0, hnl, hx, hb, hml, hown, hts, hK, hr, hlk, hfr, hlo⟩ := h
  intro H locs ls hH hS hl
  rw [hV]
  subst hv
  have K := kk H locs ls hH hS hl
  rw [hV] at K
  refine lv_ldc hx hb hown (hts _ hw) hdg ?_
  exact K
theorem z_ldcw (h : zC Γ ω own cc nL fr lo rt post) {i : Nat} {v : Int32} (n : Int) (hw : Cond.constant own i v ∈ AL) (hv : v = iZ n) (hdg : decode cc pc = .ok (.ldc_w i, 3)) (kk : Z Γ ω μ (pc + 3) L (.int (iZ n) :: st)) : Z Γ ω μ pc L st := by
  obtain ⟨p, l, e, R, s, m, args, below, meth, c, hV, hH0, hnl, hx, hb, hml, hown, hts, hK, hr, hlk, hfr, hlo⟩ := h
  intro H locs ls hH hS hl
  rw [hV]
  subst hv
  have K := kk H locs ls hH hS hl
  rw [hV] at K
  refine lv_ldcw hx hb hown (hts _ hw) hdg ?_
  exact K
theorem z_ldcf (h : zC Γ ω own cc nL fr lo rt post) {i : Nat} {v : UInt32} (hw : Cond.constantFloat own i v ∈ AL) (hdg : decode cc pc = .ok (.ldc i, 2)) (kk : Z Γ ω μ (pc + 2) L (.float v :: st)) : Z Γ ω μ pc L st := by
  obtain ⟨p, l, e, R, s, m, args, below, meth, c, hV, hH0, hnl, hx, hb, hml, hown, hts, hK, hr, hlk, hfr, hlo⟩ := h
  intro H locs ls hH hS hl
  rw [hV]
  have K := kk H locs ls hH hS hl
  rw [hV] at K
  refine lv_ldcf hx hb hown (hts _ hw) hdg ?_
  exact K
theorem z_ldc2 (h : zC Γ ω own cc nL fr lo rt post) {i : Nat} {v : Int64} (hw : Cond.constantLong own i v ∈ AL) (hdg : decode cc pc = .ok (.ldc2_w i, 3)) (kk : Z Γ ω μ (pc + 3) L (.long v :: st)) : Z Γ ω μ pc L st := by
  obtain ⟨p, l, e, R, s, m, args, below, meth, c, hV, hH0, hnl, hx, hb, hml, hown, hts, hK, hr, hlk, hfr, hlo⟩ := h
  intro H locs ls hH hS hl
  rw [hV]
  have K := kk H locs ls hH hS hl
  rw [hV] at K
  refine lv_ldc2 hx hb hown (hts _ hw) hdg ?_
  exact K
theorem z_lconst (h : zC Γ ω own cc nL fr lo rt post) {n : Fin 2} {v : Int64} (hdg : decode cc pc = .ok (.lconst n, 1)) (hv : Int64.ofNat (n : Nat) = v) (kk : Z Γ ω μ (pc + 1) L (.long v :: st)) : Z Γ ω μ pc L st := by
  obtain ⟨p, l, e, R, s, m, args, below, meth, c, hV, hH0, hnl, hx, hb, hml, hown, hts, hK, hr, hlk, hfr, hlo⟩ := h
  intro H locs ls hH hS hl
  rw [hV]
  have K := kk H locs ls hH hS hl
  rw [hV] at K
  refine lv_lconst hx hb hdg hv ?_
  exact K
theorem z_iadd (h : zC Γ ω own cc nL fr lo rt post) {a b : Int} (hdg : decode cc pc = .ok (.iadd, 1)) (kk : Z Γ ω μ (pc + 1) L (.int (iZ (a + b)) :: st)) : Z Γ ω μ pc L (.int (iZ b) :: .int (iZ a) :: st) := by
  obtain ⟨p, l, e, R, s, m, args, below, meth, c, hV, hH0, hnl, hx, hb, hml, hown, hts, hK, hr, hlk, hfr, hlo⟩ := h
  intro H locs ls hH hS hl
  rw [hV]
  have K := kk H locs ls hH hS hl
  rw [hV] at K
  refine lv_iadd hx hb hdg ?_
  rw [iZ_add]
  exact K
theorem z_isub (h : zC Γ ω own cc nL fr lo rt post) {a b : Int} (hdg : decode cc pc = .ok (.isub, 1)) (kk : Z Γ ω μ (pc + 1) L (.int (iZ (a - b)) :: st)) : Z Γ ω μ pc L (.int (iZ b) :: .int (iZ a) :: st) := by
  obtain ⟨p, l, e, R, s, m, args, below, meth, c, hV, hH0, hnl, hx, hb, hml, hown, hts, hK, hr, hlk, hfr, hlo⟩ := h
  intro H locs ls hH hS hl
  rw [hV]
  have K := kk H locs ls hH hS hl
  rw [hV] at K
  refine lv_isub hx hb hdg ?_
  rw [iZ_sub]
  exact K
theorem z_imul (h : zC Γ ω own cc nL fr lo rt post) {a b : Int} (hdg : decode cc pc = .ok (.imul, 1)) (kk : Z Γ ω μ (pc + 1) L (.int (iZ (a * b)) :: st)) : Z Γ ω μ pc L (.int (iZ b) :: .int (iZ a) :: st) := by
  obtain ⟨p, l, e, R, s, m, args, below, meth, c, hV, hH0, hnl, hx, hb, hml, hown, hts, hK, hr, hlk, hfr, hlo⟩ := h
  intro H locs ls hH hS hl
  rw [hV]
  have K := kk H locs ls hH hS hl
  rw [hV] at K
  refine lv_imul hx hb hdg ?_
  rw [iZ_mul]
  exact K
theorem z_ineg (h : zC Γ ω own cc nL fr lo rt post) {a : Int} (hdg : decode cc pc = .ok (.ineg, 1)) (kk : Z Γ ω μ (pc + 1) L (.int (iZ (-a)) :: st)) : Z Γ ω μ pc L (.int (iZ a) :: st) := by
  obtain ⟨p, l, e, R, s, m, args, below, meth, c, hV, hH0, hnl, hx, hb, hml, hown, hts, hK, hr, hlk, hfr, hlo⟩ := h
  intro H locs ls hH hS hl
  rw [hV]
  have K := kk H locs ls hH hS hl
  rw [hV] at K
  refine lv_ineg hx hb hdg ?_
  rw [iZ_neg]
  exact K
theorem z_idiv (h : zC Γ ω own cc nL fr lo rt post) {a b : Int} (hdg : decode cc pc = .ok (.idiv, 1)) (ha : 0 ≤ a ∧ a ≤ 2147483647) (hb0 : 0 < b ∧ b ≤ 2147483647) (kk : Z Γ ω μ (pc + 1) L (.int (iZ (a / b)) :: st)) : Z Γ ω μ pc L (.int (iZ b) :: .int (iZ a) :: st) := by
  obtain ⟨p, l, e, R, s, m, args, below, meth, c, hV, hH0, hnl, hx, hb, hml, hown, hts, hK, hr, hlk, hfr, hlo⟩ := h
  intro H locs ls hH hS hl
  rw [hV]
  have K := kk H locs ls hH hS hl
  rw [hV] at K
  refine lv_idiv hx hb hdg (fun q => ?_) ?_
  · have := (iZ_eq (a := b) (b := 0) ⟨by omega, hb0.2⟩ ⟨by omega, by omega⟩).mp q
    omega
  · rw [iZ_div ha hb0]
    exact K
theorem z_irem (h : zC Γ ω own cc nL fr lo rt post) {a b : Int} (hdg : decode cc pc = .ok (.irem, 1)) (ha : 0 ≤ a ∧ a ≤ 2147483647) (hb0 : 0 < b ∧ b ≤ 2147483647) (kk : Z Γ ω μ (pc + 1) L (.int (iZ (a % b)) :: st)) : Z Γ ω μ pc L (.int (iZ b) :: .int (iZ a) :: st) := by
  obtain ⟨p, l, e, R, s, m, args, below, meth, c, hV, hH0, hnl, hx, hb, hml, hown, hts, hK, hr, hlk, hfr, hlo⟩ := h
  intro H locs ls hH hS hl
  rw [hV]
  have K := kk H locs ls hH hS hl
  rw [hV] at K
  refine lv_irem hx hb hdg (fun q => ?_) ?_
  · have := (iZ_eq (a := b) (b := 0) ⟨by omega, hb0.2⟩ ⟨by omega, by omega⟩).mp q
    omega
  · rw [iZ_div ha hb0, iZ_mul, iZ_sub, show a - a / b * b = a % b by rw [Int.emod_def, Int.mul_comm]]
    exact K
theorem z_ladd (h : zC Γ ω own cc nL fr lo rt post) {a b : Int64} (hdg : decode cc pc = .ok (.ladd, 1)) (kk : Z Γ ω μ (pc + 1) L (.long (a + b) :: st)) : Z Γ ω μ pc L (.long b :: .long a :: st) := by
  obtain ⟨p, l, e, R, s, m, args, below, meth, c, hV, hH0, hnl, hx, hb, hml, hown, hts, hK, hr, hlk, hfr, hlo⟩ := h
  intro H locs ls hH hS hl
  rw [hV]
  have K := kk H locs ls hH hS hl
  rw [hV] at K
  refine lv_ladd hx hb hdg ?_
  exact K
theorem z_lsub (h : zC Γ ω own cc nL fr lo rt post) {a b : Int64} (hdg : decode cc pc = .ok (.lsub, 1)) (kk : Z Γ ω μ (pc + 1) L (.long (a - b) :: st)) : Z Γ ω μ pc L (.long b :: .long a :: st) := by
  obtain ⟨p, l, e, R, s, m, args, below, meth, c, hV, hH0, hnl, hx, hb, hml, hown, hts, hK, hr, hlk, hfr, hlo⟩ := h
  intro H locs ls hH hS hl
  rw [hV]
  have K := kk H locs ls hH hS hl
  rw [hV] at K
  refine lv_lsub hx hb hdg ?_
  exact K
theorem z_land (h : zC Γ ω own cc nL fr lo rt post) {a b : Int64} (hdg : decode cc pc = .ok (.land, 1)) (kk : Z Γ ω μ (pc + 1) L (.long (a &&& b) :: st)) : Z Γ ω μ pc L (.long b :: .long a :: st) := by
  obtain ⟨p, l, e, R, s, m, args, below, meth, c, hV, hH0, hnl, hx, hb, hml, hown, hts, hK, hr, hlk, hfr, hlo⟩ := h
  intro H locs ls hH hS hl
  rw [hV]
  have K := kk H locs ls hH hS hl
  rw [hV] at K
  refine lv_land hx hb hdg ?_
  exact K
theorem z_lor (h : zC Γ ω own cc nL fr lo rt post) {a b : Int64} (hdg : decode cc pc = .ok (.lor, 1)) (kk : Z Γ ω μ (pc + 1) L (.long (a ||| b) :: st)) : Z Γ ω μ pc L (.long b :: .long a :: st) := by
  obtain ⟨p, l, e, R, s, m, args, below, meth, c, hV, hH0, hnl, hx, hb, hml, hown, hts, hK, hr, hlk, hfr, hlo⟩ := h
  intro H locs ls hH hS hl
  rw [hV]
  have K := kk H locs ls hH hS hl
  rw [hV] at K
  refine lv_lor hx hb hdg ?_
  exact K
theorem z_lshl (h : zC Γ ω own cc nL fr lo rt post) {a v : Int64} {b : Int32} (hdg : decode cc pc = .ok (.lshl, 1)) (hv : a <<< (b.toInt64 &&& 63) = v) (kk : Z Γ ω μ (pc + 1) L (.long v :: st)) : Z Γ ω μ pc L (.int b :: .long a :: st) := by
  obtain ⟨p, l, e, R, s, m, args, below, meth, c, hV, hH0, hnl, hx, hb, hml, hown, hts, hK, hr, hlk, hfr, hlo⟩ := h
  intro H locs ls hH hS hl
  rw [hV]
  have K := kk H locs ls hH hS hl
  rw [hV] at K
  refine lv_lshl hx hb hdg hv ?_
  exact K
theorem z_lshr (h : zC Γ ω own cc nL fr lo rt post) {a v : Int64} {b : Int32} (hdg : decode cc pc = .ok (.lshr, 1)) (hv : a >>> (b.toInt64 &&& 63) = v) (kk : Z Γ ω μ (pc + 1) L (.long v :: st)) : Z Γ ω μ pc L (.int b :: .long a :: st) := by
  obtain ⟨p, l, e, R, s, m, args, below, meth, c, hV, hH0, hnl, hx, hb, hml, hown, hts, hK, hr, hlk, hfr, hlo⟩ := h
  intro H locs ls hH hS hl
  rw [hV]
  have K := kk H locs ls hH hS hl
  rw [hV] at K
  refine lv_lshr hx hb hdg hv ?_
  exact K
theorem z_lushr (h : zC Γ ω own cc nL fr lo rt post) {a v : Int64} {b : Int32} (hdg : decode cc pc = .ok (.lushr, 1)) (hv : (a.toUInt64 >>> (b.toInt64.toUInt64 &&& Int64.toUInt64 63)).toInt64 = v) (kk : Z Γ ω μ (pc + 1) L (.long v :: st)) : Z Γ ω μ pc L (.int b :: .long a :: st) := by
  obtain ⟨p, l, e, R, s, m, args, below, meth, c, hV, hH0, hnl, hx, hb, hml, hown, hts, hK, hr, hlk, hfr, hlo⟩ := h
  intro H locs ls hH hS hl
  rw [hV]
  have K := kk H locs ls hH hS hl
  rw [hV] at K
  refine lv_lushr hx hb hdg hv ?_
  exact K
theorem z_l2i (h : zC Γ ω own cc nL fr lo rt post) {a : Int64} {v : Int32} (hdg : decode cc pc = .ok (.l2i, 1)) (hv : a.toInt32 = v) (kk : Z Γ ω μ (pc + 1) L (.int v :: st)) : Z Γ ω μ pc L (.long a :: st) := by
  obtain ⟨p, l, e, R, s, m, args, below, meth, c, hV, hH0, hnl, hx, hb, hml, hown, hts, hK, hr, hlk, hfr, hlo⟩ := h
  intro H locs ls hH hS hl
  rw [hV]
  have K := kk H locs ls hH hS hl
  rw [hV] at K
  refine lv_l2i hx hb hdg hv ?_
  exact K
theorem z_iand (h : zC Γ ω own cc nL fr lo rt post) {a b : Int32} (hdg : decode cc pc = .ok (.iand, 1)) (kk : Z Γ ω μ (pc + 1) L (.int (a &&& b) :: st)) : Z Γ ω μ pc L (.int b :: .int a :: st) := by
  obtain ⟨p, l, e, R, s, m, args, below, meth, c, hV, hH0, hnl, hx, hb, hml, hown, hts, hK, hr, hlk, hfr, hlo⟩ := h
  intro H locs ls hH hS hl
  rw [hV]
  have K := kk H locs ls hH hS hl
  rw [hV] at K
  refine lv_iand hx hb hdg ?_
  exact K
theorem z_ior (h : zC Γ ω own cc nL fr lo rt post) {a b : Int32} (hdg : decode cc pc = .ok (.ior, 1)) (kk : Z Γ ω μ (pc + 1) L (.int (a ||| b) :: st)) : Z Γ ω μ pc L (.int b :: .int a :: st) := by
  obtain ⟨p, l, e, R, s, m, args, below, meth, c, hV, hH0, hnl, hx, hb, hml, hown, hts, hK, hr, hlk, hfr, hlo⟩ := h
  intro H locs ls hH hS hl
  rw [hV]
  have K := kk H locs ls hH hS hl
  rw [hV] at K
  refine lv_ior hx hb hdg ?_
  exact K
theorem z_ishl (h : zC Γ ω own cc nL fr lo rt post) {a b : Int32} (hdg : decode cc pc = .ok (.ishl, 1)) (kk : Z Γ ω μ (pc + 1) L (.int (a <<< (b &&& 31)) :: st)) : Z Γ ω μ pc L (.int b :: .int a :: st) := by
  obtain ⟨p, l, e, R, s, m, args, below, meth, c, hV, hH0, hnl, hx, hb, hml, hown, hts, hK, hr, hlk, hfr, hlo⟩ := h
  intro H locs ls hH hS hl
  rw [hV]
  have K := kk H locs ls hH hS hl
  rw [hV] at K
  refine lv_ishl hx hb hdg ?_
  exact K
theorem z_i2c (h : zC Γ ω own cc nL fr lo rt post) {a : Int} (hdg : decode cc pc = .ok (.i2c, 1)) (ha : 0 ≤ a ∧ a ≤ 65535) (kk : Z Γ ω μ (pc + 1) L (.int (iZ a) :: st)) : Z Γ ω μ pc L (.int (iZ a) :: st) := by
  obtain ⟨p, l, e, R, s, m, args, below, meth, c, hV, hH0, hnl, hx, hb, hml, hown, hts, hK, hr, hlk, hfr, hlo⟩ := h
  intro H locs ls hH hS hl
  rw [hV]
  have K := kk H locs ls hH hS hl
  rw [hV] at K
  refine lv_i2c hx hb hdg ?_ K
  obtain ⟨n, rfl⟩ := Int.eq_ofNat_of_zero_le ha.1
  have h1 : iZ (n : Int) = nI n := rfl
  rw [h1, pk_char, pk_tn (by omega), Nat.mod_eq_of_lt (by omega)]
theorem z_dup (h : zC Γ ω own cc nL fr lo rt post) {v : Value} (hdg : decode cc pc = .ok (.dup, 1)) (hv : v.category = 1) (kk : Z Γ ω μ (pc + 1) L (v :: v :: st)) : Z Γ ω μ pc L (v :: st) := by
  obtain ⟨p, l, e, R, s, m, args, below, meth, c, hV, hH0, hnl, hx, hb, hml, hown, hts, hK, hr, hlk, hfr, hlo⟩ := h
  intro H locs ls hH hS hl
  rw [hV]
  have K := kk H locs ls hH hS hl
  rw [hV] at K
  refine lv_dup hx hb hdg hv ?_
  exact K
theorem z_pop (h : zC Γ ω own cc nL fr lo rt post) {v : Value} (hdg : decode cc pc = .ok (.pop, 1)) (hv : v.category = 1) (kk : Z Γ ω μ (pc + 1) L st) : Z Γ ω μ pc L (v :: st) := by
  obtain ⟨p, l, e, R, s, m, args, below, meth, c, hV, hH0, hnl, hx, hb, hml, hown, hts, hK, hr, hlk, hfr, hlo⟩ := h
  intro H locs ls hH hS hl
  rw [hV]
  have K := kk H locs ls hH hS hl
  rw [hV] at K
  refine lv_pop hx hb hdg hv ?_
  exact K
theorem z_dup_x1 (h : zC Γ ω own cc nL fr lo rt post) {v u : Value} (hdg : decode cc pc = .ok (.dup_x1, 1)) (hv : v.category = 1) (hu : u.category = 1) (kk : Z Γ ω μ (pc + 1) L (v :: u :: v :: st)) : Z Γ ω μ pc L (v :: u :: st) := by
  obtain ⟨p, l, e, R, s, m, args, below, meth, c, hV, hH0, hnl, hx, hb, hml, hown, hts, hK, hr, hlk, hfr, hlo⟩ := h
  intro H locs ls hH hS hl
  rw [hV]
  have K := kk H locs ls hH hS hl
  rw [hV] at K
  refine lv_dup_x1 hx hb hdg hv hu ?_
  exact K
theorem z_dup2 (h : zC Γ ω own cc nL fr lo rt post) {v u : Value} (hdg : decode cc pc = .ok (.dup2, 1)) (hv : v.category = 1) (hu : u.category = 1) (kk : Z Γ ω μ (pc + 1) L (v :: u :: v :: u :: st)) : Z Γ ω μ pc L (v :: u :: st) := by
  obtain ⟨p, l, e, R, s, m, args, below, meth, c, hV, hH0, hnl, hx, hb, hml, hown, hts, hK, hr, hlk, hfr, hlo⟩ := h
  intro H locs ls hH hS hl
  rw [hV]
  have K := kk H locs ls hH hS hl
  rw [hV] at K
  refine lv_dup2_11 hx hb hdg hv hu ?_
  exact K
theorem z_goto (h : zC Γ ω own cc nL fr lo rt post) {off : Int} (tgt : Nat) (hdg : decode cc pc = .ok (.goto off, 3)) (ht : (pc : Int) + off = (tgt : Int)) (kk : Z Γ ω μ tgt L st) : Z Γ ω μ pc L st := by
  obtain ⟨p, l, e, R, s, m, args, below, meth, c, hV, hH0, hnl, hx, hb, hml, hown, hts, hK, hr, hlk, hfr, hlo⟩ := h
  intro H locs ls hH hS hl
  rw [hV]
  have K := kk H locs ls hH hS hl
  rw [hV] at K
  refine lv_goto hx hb hdg ht ?_
  exact K
theorem z_icmp_eq (h : zC Γ ω own cc nL fr lo rt post) {a b off : Int} (tgt : Nat) (hdg : decode cc pc = .ok (.if_icmp .eq off, 3)) (ht : (pc : Int) + off = (tgt : Int)) (ha : -2147483648 ≤ a ∧ a ≤ 2147483647) (hb1 : -2147483648 ≤ b ∧ b ≤ 2147483647) (kt : a = b → Z Γ ω μ tgt L st) (kf : ¬ (a = b) → Z Γ ω μ (pc + 3) L st) : Z Γ ω μ pc L (.int (iZ b) :: .int (iZ a) :: st) := by
  obtain ⟨p, l, e, R, s, m, args, below, meth, c, hV, hH0, hnl, hx, hb, hml, hown, hts, hK, hr, hlk, hfr, hlo⟩ := h
  intro H locs ls hH hS hl
  rw [hV]
  have KT := fun q => kt q H locs ls hH hS hl
  have KF := fun q => kf q H locs ls hH hS hl
  rw [hV] at KT KF
  exact lv_icmp_eq hx hb hdg ht (fun q => KT ((iZ_eq ha hb1).mp q)) (fun q => KF (fun z => q ((iZ_eq ha hb1).mpr z)))
theorem z_if_eq (h : zC Γ ω own cc nL fr lo rt post) {a off : Int} (tgt : Nat) (hdg : decode cc pc = .ok (.ifCond .eq off, 3)) (ht : (pc : Int) + off = (tgt : Int)) (ha : -2147483648 ≤ a ∧ a ≤ 2147483647) (kt : a = 0 → Z Γ ω μ tgt L st) (kf : ¬ (a = 0) → Z Γ ω μ (pc + 3) L st) : Z Γ ω μ pc L (.int (iZ a) :: st) := by
  have zb0 : (-2147483648 : Int) ≤ 0 ∧ (0 : Int) ≤ 2147483647 := by omega
  obtain ⟨p, l, e, R, s, m, args, below, meth, c, hV, hH0, hnl, hx, hb, hml, hown, hts, hK, hr, hlk, hfr, hlo⟩ := h
  intro H locs ls hH hS hl
  rw [hV]
  have KT := fun q => kt q H locs ls hH hS hl
  have KF := fun q => kf q H locs ls hH hS hl
  rw [hV] at KT KF
  exact lv_if_eq hx hb hdg ht (fun q => KT ((iZ_eq ha zb0).mp q)) (fun q => KF (fun z => q ((iZ_eq ha zb0).mpr z)))
theorem z_icmp_ne (h : zC Γ ω own cc nL fr lo rt post) {a b off : Int} (tgt : Nat) (hdg : decode cc pc = .ok (.if_icmp .ne off, 3)) (ht : (pc : Int) + off = (tgt : Int)) (ha : -2147483648 ≤ a ∧ a ≤ 2147483647) (hb1 : -2147483648 ≤ b ∧ b ≤ 2147483647) (kt : a ≠ b → Z Γ ω μ tgt L st) (kf : a = b → Z Γ ω μ (pc + 3) L st) : Z Γ ω μ pc L (.int (iZ b) :: .int (iZ a) :: st) := by
  obtain ⟨p, l, e, R, s, m, args, below, meth, c, hV, hH0, hnl, hx, hb, hml, hown, hts, hK, hr, hlk, hfr, hlo⟩ := h
  intro H locs ls hH hS hl
  rw [hV]
  have KT := fun q => kt q H locs ls hH hS hl
  have KF := fun q => kf q H locs ls hH hS hl
  rw [hV] at KT KF
  exact lv_icmp_ne hx hb hdg ht (fun q => KT ((not_congr (iZ_eq ha hb1)).mp q)) (fun q => KF ((iZ_eq ha hb1).mp q))
theorem z_if_ne (h : zC Γ ω own cc nL fr lo rt post) {a off : Int} (tgt : Nat) (hdg : decode cc pc = .ok (.ifCond .ne off, 3)) (ht : (pc : Int) + off = (tgt : Int)) (ha : -2147483648 ≤ a ∧ a ≤ 2147483647) (kt : a ≠ 0 → Z Γ ω μ tgt L st) (kf : a = 0 → Z Γ ω μ (pc + 3) L st) : Z Γ ω μ pc L (.int (iZ a) :: st) := by
  have zb0 : (-2147483648 : Int) ≤ 0 ∧ (0 : Int) ≤ 2147483647 := by omega
  obtain ⟨p, l, e, R, s, m, args, below, meth, c, hV, hH0, hnl, hx, hb, hml, hown, hts, hK, hr, hlk, hfr, hlo⟩ := h
  intro H locs ls hH hS hl
  rw [hV]
  have KT := fun q => kt q H locs ls hH hS hl
  have KF := fun q => kf q H locs ls hH hS hl
  rw [hV] at KT KF
  exact lv_if_ne hx hb hdg ht (fun q => KT ((not_congr (iZ_eq ha zb0)).mp q)) (fun q => KF ((iZ_eq ha zb0).mp q))
theorem z_icmp_lt (h : zC Γ ω own cc nL fr lo rt post) {a b off : Int} (tgt : Nat) (hdg : decode cc pc = .ok (.if_icmp .lt off, 3)) (ht : (pc : Int) + off = (tgt : Int)) (ha : -2147483648 ≤ a ∧ a ≤ 2147483647) (hb1 : -2147483648 ≤ b ∧ b ≤ 2147483647) (kt : a < b → Z Γ ω μ tgt L st) (kf : ¬ (a < b) → Z Γ ω μ (pc + 3) L st) : Z Γ ω μ pc L (.int (iZ b) :: .int (iZ a) :: st) := by
  obtain ⟨p, l, e, R, s, m, args, below, meth, c, hV, hH0, hnl, hx, hb, hml, hown, hts, hK, hr, hlk, hfr, hlo⟩ := h
  intro H locs ls hH hS hl
  rw [hV]
  have KT := fun q => kt q H locs ls hH hS hl
  have KF := fun q => kf q H locs ls hH hS hl
  rw [hV] at KT KF
  exact lv_icmp_lt hx hb hdg ht (fun q => KT ((iZ_lt ha hb1).mp q)) (fun q => KF (fun z => q ((iZ_lt ha hb1).mpr z)))
theorem z_if_lt (h : zC Γ ω own cc nL fr lo rt post) {a off : Int} (tgt : Nat) (hdg : decode cc pc = .ok (.ifCond .lt off, 3)) (ht : (pc : Int) + off = (tgt : Int)) (ha : -2147483648 ≤ a ∧ a ≤ 2147483647) (kt : a < 0 → Z Γ ω μ tgt L st) (kf : ¬ (a < 0) → Z Γ ω μ (pc + 3) L st) : Z Γ ω μ pc L (.int (iZ a) :: st) := by
  have zb0 : (-2147483648 : Int) ≤ 0 ∧ (0 : Int) ≤ 2147483647 := by omega
  obtain ⟨p, l, e, R, s, m, args, below, meth, c, hV, hH0, hnl, hx, hb, hml, hown, hts, hK, hr, hlk, hfr, hlo⟩ := h
  intro H locs ls hH hS hl
  rw [hV]
  have KT := fun q => kt q H locs ls hH hS hl
  have KF := fun q => kf q H locs ls hH hS hl
  rw [hV] at KT KF
  exact lv_if_lt hx hb hdg ht (fun q => KT ((iZ_lt ha zb0).mp q)) (fun q => KF (fun z => q ((iZ_lt ha zb0).mpr z)))
theorem z_icmp_ge (h : zC Γ ω own cc nL fr lo rt post) {a b off : Int} (tgt : Nat) (hdg : decode cc pc = .ok (.if_icmp .ge off, 3)) (ht : (pc : Int) + off = (tgt : Int)) (ha : -2147483648 ≤ a ∧ a ≤ 2147483647) (hb1 : -2147483648 ≤ b ∧ b ≤ 2147483647) (kt : b ≤ a → Z Γ ω μ tgt L st) (kf : ¬ (b ≤ a) → Z Γ ω μ (pc + 3) L st) : Z Γ ω μ pc L (.int (iZ b) :: .int (iZ a) :: st) := by
  obtain ⟨p, l, e, R, s, m, args, below, meth, c, hV, hH0, hnl, hx, hb, hml, hown, hts, hK, hr, hlk, hfr, hlo⟩ := h
  intro H locs ls hH hS hl
  rw [hV]
  have KT := fun q => kt q H locs ls hH hS hl
  have KF := fun q => kf q H locs ls hH hS hl
  rw [hV] at KT KF
  exact lv_icmp_ge hx hb hdg ht (fun q => KT ((iZ_le hb1 ha).mp q)) (fun q => KF (fun z => q ((iZ_le hb1 ha).mpr z)))
theorem z_if_ge (h : zC Γ ω own cc nL fr lo rt post) {a off : Int} (tgt : Nat) (hdg : decode cc pc = .ok (.ifCond .ge off, 3)) (ht : (pc : Int) + off = (tgt : Int)) (ha : -2147483648 ≤ a ∧ a ≤ 2147483647) (kt : 0 ≤ a → Z Γ ω μ tgt L st) (kf : ¬ (0 ≤ a) → Z Γ ω μ (pc + 3) L st) : Z Γ ω μ pc L (.int (iZ a) :: st) := by
  have zb0 : (-2147483648 : Int) ≤ 0 ∧ (0 : Int) ≤ 2147483647 := by omega
  obtain ⟨p, l, e, R, s, m, args, below, meth, c, hV, hH0, hnl, hx, hb, hml, hown, hts, hK, hr, hlk, hfr, hlo⟩ := h
  intro H locs ls hH hS hl
  rw [hV]
  have KT := fun q => kt q H locs ls hH hS hl
  have KF := fun q => kf q H locs ls hH hS hl
  rw [hV] at KT KF
  exact lv_if_ge hx hb hdg ht (fun q => KT ((iZ_le zb0 ha).mp q)) (fun q => KF (fun z => q ((iZ_le zb0 ha).mpr z)))
theorem z_icmp_gt (h : zC Γ ω own cc nL fr lo rt post) {a b off : Int} (tgt : Nat) (hdg : decode cc pc = .ok (.if_icmp .gt off, 3)) (ht : (pc : Int) + off = (tgt : Int)) (ha : -2147483648 ≤ a ∧ a ≤ 2147483647) (hb1 : -2147483648 ≤ b ∧ b ≤ 2147483647) (kt : b < a → Z Γ ω μ tgt L st) (kf : ¬ (b < a) → Z Γ ω μ (pc + 3) L st) : Z Γ ω μ pc L (.int (iZ b) :: .int (iZ a) :: st) := by
  obtain ⟨p, l, e, R, s, m, args, below, meth, c, hV, hH0, hnl, hx, hb, hml, hown, hts, hK, hr, hlk, hfr, hlo⟩ := h
  intro H locs ls hH hS hl
  rw [hV]
  have KT := fun q => kt q H locs ls hH hS hl
  have KF := fun q => kf q H locs ls hH hS hl
  rw [hV] at KT KF
  exact lv_icmp_gt hx hb hdg ht (fun q => KT ((iZ_lt hb1 ha).mp q)) (fun q => KF (fun z => q ((iZ_lt hb1 ha).mpr z)))
theorem z_if_gt (h : zC Γ ω own cc nL fr lo rt post) {a off : Int} (tgt : Nat) (hdg : decode cc pc = .ok (.ifCond .gt off, 3)) (ht : (pc : Int) + off = (tgt : Int)) (ha : -2147483648 ≤ a ∧ a ≤ 2147483647) (kt : 0 < a → Z Γ ω μ tgt L st) (kf : ¬ (0 < a) → Z Γ ω μ (pc + 3) L st) : Z Γ ω μ pc L (.int (iZ a) :: st) := by
  have zb0 : (-2147483648 : Int) ≤ 0 ∧ (0 : Int) ≤ 2147483647 := by omega
  obtain ⟨p, l, e, R, s, m, args, below, meth, c, hV, hH0, hnl, hx, hb, hml, hown, hts, hK, hr, hlk, hfr, hlo⟩ := h
  intro H locs ls hH hS hl
  rw [hV]
  have KT := fun q => kt q H locs ls hH hS hl
  have KF := fun q => kf q H locs ls hH hS hl
  rw [hV] at KT KF
  exact lv_if_gt hx hb hdg ht (fun q => KT ((iZ_lt zb0 ha).mp q)) (fun q => KF (fun z => q ((iZ_lt zb0 ha).mpr z)))
theorem z_icmp_le (h : zC Γ ω own cc nL fr lo rt post) {a b off : Int} (tgt : Nat) (hdg : decode cc pc = .ok (.if_icmp .le off, 3)) (ht : (pc : Int) + off = (tgt : Int)) (ha : -2147483648 ≤ a ∧ a ≤ 2147483647) (hb1 : -2147483648 ≤ b ∧ b ≤ 2147483647) (kt : a ≤ b → Z Γ ω μ tgt L st) (kf : ¬ (a ≤ b) → Z Γ ω μ (pc + 3) L st) : Z Γ ω μ pc L (.int (iZ b) :: .int (iZ a) :: st) := by
  obtain ⟨p, l, e, R, s, m, args, below, meth, c, hV, hH0, hnl, hx, hb, hml, hown, hts, hK, hr, hlk, hfr, hlo⟩ := h
  intro H locs ls hH hS hl
  rw [hV]
  have KT := fun q => kt q H locs ls hH hS hl
  have KF := fun q => kf q H locs ls hH hS hl
  rw [hV] at KT KF
  exact lv_icmp_le hx hb hdg ht (fun q => KT ((iZ_le ha hb1).mp q)) (fun q => KF (fun z => q ((iZ_le ha hb1).mpr z)))
theorem z_if_le (h : zC Γ ω own cc nL fr lo rt post) {a off : Int} (tgt : Nat) (hdg : decode cc pc = .ok (.ifCond .le off, 3)) (ht : (pc : Int) + off = (tgt : Int)) (ha : -2147483648 ≤ a ∧ a ≤ 2147483647) (kt : a ≤ 0 → Z Γ ω μ tgt L st) (kf : ¬ (a ≤ 0) → Z Γ ω μ (pc + 3) L st) : Z Γ ω μ pc L (.int (iZ a) :: st) := by
  have zb0 : (-2147483648 : Int) ≤ 0 ∧ (0 : Int) ≤ 2147483647 := by omega
  obtain ⟨p, l, e, R, s, m, args, below, meth, c, hV, hH0, hnl, hx, hb, hml, hown, hts, hK, hr, hlk, hfr, hlo⟩ := h
  intro H locs ls hH hS hl
  rw [hV]
  have KT := fun q => kt q H locs ls hH hS hl
  have KF := fun q => kf q H locs ls hH hS hl
  rw [hV] at KT KF
  exact lv_if_le hx hb hdg ht (fun q => KT ((iZ_le ha zb0).mp q)) (fun q => KF (fun z => q ((iZ_le ha zb0).mpr z)))
theorem z_tableIn (h : zC Γ ω own cc nL fr lo rt post) {dflt l0 h0 off : Int} {offs : Array Int} {len : Nat} {a : Int} (tgt : Nat) (hdg : decode cc pc = .ok (.tableswitch dflt l0 h0 offs, len)) (ha : -2147483648 ≤ a ∧ a ≤ 2147483647) (h1 : l0 ≤ a) (h2 : a ≤ h0) (ho : offs[(a - l0).toNat]? = some off) (ht : (pc : Int) + off = (tgt : Int)) (kk : Z Γ ω μ tgt L st) : Z Γ ω μ pc L (.int (iZ a) :: st) := by
  obtain ⟨p, l, e, R, s, m, args, below, meth, c, hV, hH0, hnl, hx, hb, hml, hown, hts, hK, hr, hlk, hfr, hlo⟩ := h
  intro H locs ls hH hS hl
  rw [hV]
  have K := kk H locs ls hH hS hl
  rw [hV] at K
  exact lv_tableIn hx hb hdg (by rw [iZ_toInt ha]; omega) (by rw [iZ_toInt ha]; omega) (by rw [iZ_toInt ha]; exact ho) ht K
theorem z_tableOut (h : zC Γ ω own cc nL fr lo rt post) {dflt l0 h0 : Int} {offs : Array Int} {len : Nat} {a : Int} (tgt : Nat) (hdg : decode cc pc = .ok (.tableswitch dflt l0 h0 offs, len)) (ha : -2147483648 ≤ a ∧ a ≤ 2147483647) (h1 : a < l0 ∨ h0 < a) (ht : (pc : Int) + dflt = (tgt : Int)) (kk : Z Γ ω μ tgt L st) : Z Γ ω μ pc L (.int (iZ a) :: st) := by
  obtain ⟨p, l, e, R, s, m, args, below, meth, c, hV, hH0, hnl, hx, hb, hml, hown, hts, hK, hr, hlk, hfr, hlo⟩ := h
  intro H locs ls hH hS hl
  rw [hV]
  have K := kk H locs ls hH hS hl
  rw [hV] at K
  exact lv_tableOut hx hb hdg (by rw [iZ_toInt ha]; exact h1) ht K
theorem z_lookup (h : zC Γ ω own cc nL fr lo rt post) {dflt off : Int} {ps : Array (Int × Int)} {len : Nat} {a : Int} (tgt : Nat) (hdg : decode cc pc = .ok (.lookupswitch dflt ps, len)) (ha : -2147483648 ≤ a ∧ a ≤ 2147483647) (hp : (ps.toList.zip (ps.toList.drop 1)).all (fun (a, next) => a.1 < next.1) = true) (ho : Op.lookupswitch.offset ps.toList dflt a = off) (ht : (pc : Int) + off = (tgt : Int)) (kk : Z Γ ω μ tgt L st) : Z Γ ω μ pc L (.int (iZ a) :: st) := by
  obtain ⟨p, l, e, R, s, m, args, below, meth, c, hV, hH0, hnl, hx, hb, hml, hown, hts, hK, hr, hlk, hfr, hlo⟩ := h
  intro H locs ls hH hS hl
  rw [hV]
  have K := kk H locs ls hH hS hl
  rw [hV] at K
  exact lv_lookup hx hb hdg hp (by rw [iZ_toInt ha]; exact ho) ht K
/-- a truth as an int -/
abbrev zB (P : Prop) [Decidable P] : Int := if P then 1 else 0
theorem zB_t {P : Prop} [Decidable P] (h : P) : zB P = 1 := if_pos h
theorem zB_f {P : Prop} [Decidable P] (h : ¬ P) : zB P = 0 := if_neg h
theorem zB_r (P : Prop) [Decidable P] : -2147483648 ≤ zB P ∧ zB P ≤ 2147483647 := by
  unfold zB; split <;> omega
theorem z_ifb_eq (h : zC Γ ω own cc nL fr lo rt post) {P : Prop} [Decidable P] {off : Int} (tgt : Nat) (hdg : decode cc pc = .ok (.ifCond .eq off, 3)) (ht : (pc : Int) + off = (tgt : Int)) (kt : ¬ P → Z Γ ω μ tgt L st) (kf : P → Z Γ ω μ (pc + 3) L st) : Z Γ ω μ pc L (.int (iZ (zB P)) :: st) := by
  refine z_if_eq h tgt hdg ht (zB_r P) (fun q => kt (fun z => ?_)) (fun q => kf ?_)
  · rw [zB_t z] at q; omega
  · by_cases z : P
    · exact z
    · rw [zB_f z] at q; omega
theorem z_ifb_ne (h : zC Γ ω own cc nL fr lo rt post) {P : Prop} [Decidable P] {off : Int} (tgt : Nat) (hdg : decode cc pc = .ok (.ifCond .ne off, 3)) (ht : (pc : Int) + off = (tgt : Int)) (kt : P → Z Γ ω μ tgt L st) (kf : ¬ P → Z Γ ω μ (pc + 3) L st) : Z Γ ω μ pc L (.int (iZ (zB P)) :: st) := by
  refine z_if_ne h tgt hdg ht (zB_r P) (fun q => kt ?_) (fun q => kf (fun z => ?_))
  · by_cases z : P
    · exact z
    · rw [zB_f z] at q; omega
  · rw [zB_t z] at q; omega
theorem z_weak {L' : List (Nat × Value)} (hs : zsub L' L) (kk : Z Γ ω μ pc L' st) : Z Γ ω μ pc L st := fun H locs ls hH hS hl => kk H locs ls hH hS ⟨hl.1, hl.2.1, fun k v hk => hl.2.2 k v (zsub_lk hs hk)⟩
theorem z_mem {μ' : zM} (e : μ = μ') (kk : Z Γ ω μ' pc L st) : Z Γ ω μ pc L st := e ▸ kk
theorem z_nm (kk : ∀ μ1 : zM, μ1 = μ → Z Γ ω μ1 pc L st) : Z Γ ω μ pc L st := kk μ rfl
theorem z_nmi {x : Int32} (kk : ∀ y : Int32, y = x → Z Γ ω μ pc L (.int y :: st)) : Z Γ ω μ pc L (.int x :: st) := kk x rfl
theorem z_topr {a b : Nat} (e : a = b) (kk : Z Γ ω μ pc L (.ref b :: st)) : Z Γ ω μ pc L (.ref a :: st) := e ▸ kk
theorem z_topn {a : Int} (kk : ∀ z : Int, z = a → Z Γ ω μ pc L (.int (iZ z) :: st)) : Z Γ ω μ pc L (.int (iZ a) :: st) := kk a rfl
theorem z_top {a b : Int} (e : a = b) (kk : Z Γ ω μ pc L (.int (iZ b) :: st)) : Z Γ ω μ pc L (.int (iZ a) :: st) := e ▸ kk
/-! the heap -/
theorem z_get (h : zC Γ ω own cc nL fr lo rt post) {ci N index : Nat} {C ref : String} {T : u_T} (hin : ∀ w ∈ u_ws C T N, w ∈ AL) (hc : zcl[ci]? = some (C, T, N)) (k : Nat) (hk : k < N) (hlink : Cond.fieldLink own index ref (T k).2.1 (T k).2.2.1 ∈ AL) (href : ref = (T k).1) (hdg : decode cc pc = .ok (.getfield index, 3))
    {c : Int} (hcl : 0 ≤ c ∧ c < (ω.2.2.1 : Int)) {F : (Int → Int) → List Value} (he : ∀ r, ω.2.2.2.2 c r = .inr (ci, F r)) {v : Value} (hv : (F (μ c))[k]? = some v) (kk : Z Γ ω μ (pc + 3) L (v :: st)) : Z Γ ω μ pc L (.ref (ω.2.2.2.1 c) :: st) := by
  obtain ⟨p, l, e, R, s, m, args, below, meth, cq, hV, hH0, hnl, hx, hb, hml, hown, hts, hK, hr, hlk, hfr, hlo⟩ := h
  intro H locs ls hH hS hl
  have K := kk H locs ls hH hS hl
  rw [hV] at K ⊢
  subst href
  exact va_get hx hb hts hin hown hK.1 hH.1 c.toNat (by rw [zws_at hcl.1 hcl.2, he]) hc k hk (hts _ hlink) (fun _ h9 => h9) hv hdg K
theorem z_put (h : zC Γ ω own cc nL fr lo rt post) {ci N index : Nat} {C ref : String} {T : u_T} (hin : ∀ w ∈ u_ws C T N, w ∈ AL) (hc : zcl[ci]? = some (C, T, N)) (ty0 : Nat → FieldType) (hty : ∀ k, k < N → parseFieldDescriptor (T k).2.2.1 = some (ty0 k)) (hnm : ∀ a, a < N → ∀ b, b < N → a ≠ b → (T a).2.1 ≠ (T b).2.1) (k : Nat) (hk : k < N) (hfin : (T k).2.2.2 = false) (hti : ty0 k = .int) (kI : Int) (hki : kI = (k : Int)) (hlink : Cond.fieldLink own index ref (T k).2.1 (T k).2.2.1 ∈ AL) (href : ref = (T k).1) (hdg : decode cc pc = .ok (.putfield index, 3))
    {c : Int} (hcl : 0 ≤ c ∧ c < (ω.2.2.1 : Int)) {F : (Int → Int) → List Value} (he : ∀ r, ω.2.2.2.2 c r = .inr (ci, F r)) {z : Int} (he2 : ∀ r : Int → Int, F (fun i' => if i' = kI then z else r i') = (F r).set k (.int (iZ z))) (hl9 : ∀ r, k < (F r).length) (kk : Z Γ ω (zup μ c kI z) (pc + 3) L st) : Z Γ ω μ pc L (.int (iZ z) :: .ref (ω.2.2.2.1 c) :: st) := by
  obtain ⟨p, l, e, R, s, m, args, below, meth, cq, hV, hH0, hnl, hx, hb, hml, hown, hts, hK, hr, hlk, hfr, hlo⟩ := h
  intro H locs ls hH hS hl
  have K := fun H locs hH hS => kk H locs ls hH hS hl
  rw [hV] at K ⊢
  subst href
  refine va_put hx hb hts hin ty0 hty hnm hown hK.1 hH.1 hH.2 hS c.toNat (by rw [zws_at hcl.1 hcl.2, he]) hc k hk (hts _ hlink) (fun _ h9 => h9) hfin (ty := .int) (by rw [hty k hk, hti]) rfl rfl (hl9 _) hdg (fun H1 locs1 hP hD hS1 => ?_)
  rw [zws_set (μ' := zup μ c kI z) hcl.1 hcl.2 (by rw [zup_c, he, he2]) (fun c' hc' => zup_o hc')] at hP hD
  exact K H1 locs1 ⟨hP, hD⟩ hS1
theorem z_putc (h : zC Γ ω own cc nL fr lo rt post) {ci N index : Nat} {C ref : String} {T : u_T} (hin : ∀ w ∈ u_ws C T N, w ∈ AL) (hc : zcl[ci]? = some (C, T, N)) (ty0 : Nat → FieldType) (hty : ∀ k, k < N → parseFieldDescriptor (T k).2.2.1 = some (ty0 k)) (hnm : ∀ a, a < N → ∀ b, b < N → a ≠ b → (T a).2.1 ≠ (T b).2.1) (k : Nat) (hk : k < N) (hfin : (T k).2.2.2 = false) (hti : ty0 k = .char) (kI : Int) (hki : kI = (k : Int)) (hlink : Cond.fieldLink own index ref (T k).2.1 (T k).2.2.1 ∈ AL) (href : ref = (T k).1) (hdg : decode cc pc = .ok (.putfield index, 3))
    {c : Int} (hcl : 0 ≤ c ∧ c < (ω.2.2.1 : Int)) {F : (Int → Int) → List Value} (he : ∀ r, ω.2.2.2.2 c r = .inr (ci, F r)) {z : Int} (hz : 0 ≤ z ∧ z ≤ 65535) (he2 : ∀ r : Int → Int, F (fun i' => if i' = kI then z else r i') = (F r).set k (.int (iZ z))) (hl9 : ∀ r, k < (F r).length) (kk : Z Γ ω (zup μ c kI z) (pc + 3) L st) : Z Γ ω μ pc L (.int (iZ z) :: .ref (ω.2.2.2.1 c) :: st) := by
  obtain ⟨p, l, e, R, s, m, args, below, meth, cq, hV, hH0, hnl, hx, hb, hml, hown, hts, hK, hr, hlk, hfr, hlo⟩ := h
  intro H locs ls hH hS hl
  have K := fun H locs hH hS => kk H locs ls hH hS hl
  rw [hV] at K ⊢
  subst href
  have hcn : narrow .char (.int (iZ z)) = .int (iZ z) ∧ fits .char (.int (iZ z)) = true := by
    obtain ⟨n, rfl⟩ := Int.eq_ofNat_of_zero_le hz.1
    exact pk_charN (q := n) (by omega)
  refine va_put hx hb hts hin ty0 hty hnm hown hK.1 hH.1 hH.2 hS c.toNat (by rw [zws_at hcl.1 hcl.2, he]) hc k hk (hts _ hlink) (fun _ h9 => h9) hfin (ty := .char) (by rw [hty k hk, hti]) hcn.1 hcn.2 (hl9 _) hdg (fun H1 locs1 hP hD hS1 => ?_)
  rw [zws_set (μ' := zup μ c kI z) hcl.1 hcl.2 (by rw [zup_c, he, he2]) (fun c' hc' => zup_o hc')] at hP hD
  exact K H1 locs1 ⟨hP, hD⟩ hS1
theorem z_iald (h : zC Γ ω own cc nL fr lo rt post) (hdg : decode cc pc = .ok (.iaload, 1)) {c i : Int} (hcl : 0 ≤ c ∧ c < (ω.2.2.1 : Int)) {n : Nat} (he : ∀ r, ω.2.2.2.2 c r = .inl (ω.2.1 0, n, .inl (fun j => iZ (r j)))) (hi0 : 0 ≤ i) (hi : i < (n : Int)) (hn9 : n ≤ 2000000000) (kk : Z Γ ω μ (pc + 1) L (.int (iZ (μ c i)) :: st)) : Z Γ ω μ pc L (.int (iZ i) :: .ref (ω.2.2.2.1 c) :: st) := by
  obtain ⟨p, l, e, R, s, m, args, below, meth, cq, hV, hH0, hnl, hx, hb, hml, hown, hts, hK, hr, hlk, hfr, hlo⟩ := h
  intro H locs ls hH hS hl
  have K := kk H locs ls hH hS hl
  rw [hV] at K ⊢
  refine va_iald hx hb hK.1 hH.1 c.toNat 0 (by rw [zws_at hcl.1 hcl.2, he]) rfl (iZ_in hi0 hi (by omega)) hdg ?_
  rw [iZ_clamp hi0 (by omega), Int.toNat_of_nonneg hi0]
  exact K
theorem z_cald (h : zC Γ ω own cc nL fr lo rt post) (hdg : decode cc pc = .ok (.caload, 1)) {c i : Int} (hcl : 0 ≤ c ∧ c < (ω.2.2.1 : Int)) {n : Nat} (he : ∀ r, ω.2.2.2.2 c r = .inl (ω.2.1 1, n, .inl (fun j => iZ (r j)))) (hi0 : 0 ≤ i) (hi : i < (n : Int)) (hn9 : n ≤ 2000000000) (kk : Z Γ ω μ (pc + 1) L (.int (iZ (μ c i)) :: st)) : Z Γ ω μ pc L (.int (iZ i) :: .ref (ω.2.2.2.1 c) :: st) := by
  obtain ⟨p, l, e, R, s, m, args, below, meth, cq, hV, hH0, hnl, hx, hb, hml, hown, hts, hK, hr, hlk, hfr, hlo⟩ := h
  intro H locs ls hH hS hl
  have K := kk H locs ls hH hS hl
  rw [hV] at K ⊢
  refine va_cald hx hb hK.1 hH.1 c.toNat 1 (by rw [zws_at hcl.1 hcl.2, he]) rfl (iZ_in hi0 hi (by omega)) hdg ?_
  rw [iZ_clamp hi0 (by omega), Int.toNat_of_nonneg hi0]
  exact K
theorem z_fup {μ : zM} {c i z : Int} (hi0 : 0 ≤ i) : (fun j : Nat => iZ (zup μ c i z c j)) = upd (fun j : Nat => iZ (μ c j)) i.toNat (iZ z) := by
  funext j
  unfold zup upd
  by_cases hj : (j : Int) = i
  · have : j = i.toNat := by omega
    subst this
    simp [Int.toNat_of_nonneg hi0]
  · have : ¬ j = i.toNat := by omega
    simp [hj, this]
theorem z_iast (h : zC Γ ω own cc nL fr lo rt post) (hdg : decode cc pc = .ok (.iastore, 1)) {c i z : Int} (hcl : 0 ≤ c ∧ c < (ω.2.2.1 : Int)) {n : Nat} (he : ∀ r, ω.2.2.2.2 c r = .inl (ω.2.1 0, n, .inl (fun j => iZ (r j)))) (hi0 : 0 ≤ i) (hi : i < (n : Int)) (hn9 : n ≤ 2000000000) (kk : Z Γ ω (zup μ c i z) (pc + 1) L st) : Z Γ ω μ pc L (.int (iZ z) :: .int (iZ i) :: .ref (ω.2.2.2.1 c) :: st) := by
  obtain ⟨p, l, e, R, s, m, args, below, meth, cq, hV, hH0, hnl, hx, hb, hml, hown, hts, hK, hr, hlk, hfr, hlo⟩ := h
  intro H locs ls hH hS hl
  have K := fun H locs hH hS => kk H locs ls hH hS hl
  rw [hV] at K ⊢
  refine va_iast hx hb hK.1 hH.1 hH.2 hS c.toNat 0 (by rw [zws_at hcl.1 hcl.2, he]) rfl (iZ_in hi0 hi (by omega)) hdg (fun H1 locs1 hP hD hS1 => ?_)
  rw [zws_set (μ' := zup μ c i z) hcl.1 hcl.2 (by rw [he, z_fup hi0, iZ_clamp hi0 (by omega)]) (fun c' hc' => zup_o hc')] at hP hD
  exact K H1 locs1 ⟨hP, hD⟩ hS1
theorem z_cast (h : zC Γ ω own cc nL fr lo rt post) (hdg : decode cc pc = .ok (.castore, 1)) {c i z : Int} (hcl : 0 ≤ c ∧ c < (ω.2.2.1 : Int)) {n : Nat} (he : ∀ r, ω.2.2.2.2 c r = .inl (ω.2.1 1, n, .inl (fun j => iZ (r j)))) (hi0 : 0 ≤ i) (hi : i < (n : Int)) (hn9 : n ≤ 2000000000) (hz : 0 ≤ z ∧ z ≤ 65535) (kk : Z Γ ω (zup μ c i z) (pc + 1) L st) : Z Γ ω μ pc L (.int (iZ z) :: .int (iZ i) :: .ref (ω.2.2.2.1 c) :: st) := by
  obtain ⟨p, l, e, R, s, m, args, below, meth, cq, hV, hH0, hnl, hx, hb, hml, hown, hts, hK, hr, hlk, hfr, hlo⟩ := h
  intro H locs ls hH hS hl
  have K := fun H locs hH hS => kk H locs ls hH hS hl
  rw [hV] at K ⊢
  have hcn : vp_nar .char (iZ z) = iZ z := by
    obtain ⟨n, rfl⟩ := Int.eq_ofNat_of_zero_le hz.1
    have h1 := (pk_charN (q := n) (by omega)).1
    show (match narrow .char (.int (nI n)) with | .int v => v | _ => 0) = nI n
    rw [h1]
  refine va_cast hx hb hK.1 hH.1 hH.2 hS c.toNat 1 (by rw [zws_at hcl.1 hcl.2, he]) rfl (iZ_in hi0 hi (by omega)) hdg (fun H1 locs1 hP hD hS1 => ?_)
  rw [zws_set (μ' := zup μ c i z) hcl.1 hcl.2 (by rw [he, z_fup hi0, iZ_clamp hi0 (by omega), hcn]) (fun c' hc' => zup_o hc')] at hP hD
  exact K H1 locs1 ⟨hP, hD⟩ hS1
theorem z_aald (h : zC Γ ω own cc nL fr lo rt post) (hdg : decode cc pc = .ok (.aaload, 1)) (t0 : Nat) {C : String} (ht : (zty ω.2.1)[t0]? = some (ω.2.1 t0, .object C)) {c i : Int} (hcl : 0 ≤ c ∧ c < (ω.2.2.1 : Int)) {n : Nat} (f : (Int → Int) → Int → Int) (he : ∀ r, ω.2.2.2.2 c r = .inl (ω.2.1 t0, n, .inr (.inr (.inr (.inr (fun j => some (ω.2.2.2.1 (f r j)))))))) (hi0 : 0 ≤ i) (hi : i < (n : Int)) (hn9 : n ≤ 2000000000) (kk : Z Γ ω μ (pc + 1) L (.ref (ω.2.2.2.1 (f (μ c) i)) :: st)) : Z Γ ω μ pc L (.int (iZ i) :: .ref (ω.2.2.2.1 c) :: st) := by
  obtain ⟨p, l, e, R, s, m, args, below, meth, cq, hV, hH0, hnl, hx, hb, hml, hown, hts, hK, hr, hlk, hfr, hlo⟩ := h
  intro H locs ls hH hS hl
  have K := kk H locs ls hH hS hl
  rw [hV] at K ⊢
  refine va_aldq hx hb hK.1 hH.1 c.toNat t0 (by rw [zws_at hcl.1 hcl.2, he]) ht (iZ_in hi0 hi (by omega)) hdg ?_
  rw [iZ_clamp hi0 (by omega), Int.toNat_of_nonneg hi0]
  exact K
theorem z_aast (h : zC Γ ω own cc nL fr lo rt post) (hdg : decode cc pc = .ok (.aastore, 1)) (t0 : Nat) {r0 : vw_C} {ci : Nat} (ht : (zty ω.2.1)[t0]? = some (ω.2.1 t0, .object r0.1)) (hci : zcl[ci]? = some r0) {c i z o : Int} (hcl : 0 ≤ c ∧ c < (ω.2.2.1 : Int)) {n : Nat} (f : (Int → Int) → Int → Int) (he : ∀ r, ω.2.2.2.2 c r = .inl (ω.2.1 t0, n, .inr (.inr (.inr (.inr (fun j => some (ω.2.2.2.1 (f r j)))))))) (hf : ∀ (r : Int → Int) (j : Int), f (fun i' => if i' = i then z else r i') j = if j = i then o else f r j) (hcl2 : 0 ≤ o ∧ o < (ω.2.2.1 : Int)) {F : (Int → Int) → List Value} (he2 : ∀ r, ω.2.2.2.2 o r = .inr (ci, F r)) (hi0 : 0 ≤ i) (hi : i < (n : Int)) (hn9 : n ≤ 2000000000) (kk : Z Γ ω (zup μ c i z) (pc + 1) L st) : Z Γ ω μ pc L (.ref (ω.2.2.2.1 o) :: .int (iZ i) :: .ref (ω.2.2.2.1 c) :: st) := by
  obtain ⟨p, l, e, R, s, m, args, below, meth, cq, hV, hH0, hnl, hx, hb, hml, hown, hts, hK, hr, hlk, hfr, hlo⟩ := h
  intro H locs ls hH hS hl
  have K := fun H locs hH hS => kk H locs ls hH hS hl
  rw [hV] at K ⊢
  refine va_astq hx hb hK.1 hH.1 hH.2 hS c.toNat t0 o.toNat ci (by rw [zws_at hcl.1 hcl.2, he]) ht (by rw [zws_at hcl2.1 hcl2.2, he2]) hci (iZ_in hi0 hi (by omega)) hdg (fun H1 locs1 hP hD hS1 => ?_)
  have e9 : (fun j : Nat => some (ω.2.2.2.1 (f (fun i' => if i' = i then z else μ c i') j))) = va_up (fun j : Nat => some (ω.2.2.2.1 (f (μ c) j))) i.toNat (some (ω.2.2.2.1 o)) := by
    funext j
    rw [hf]
    unfold va_up
    by_cases hj : (j : Int) = i
    · have : j = i.toNat := by omega
      rw [if_pos hj, if_pos this]
    · have : ¬ j = i.toNat := by omega
      rw [if_neg hj, if_neg this]
  rw [zws_set (μ' := zup μ c i z) hcl.1 hcl.2 (by rw [zup_c, he, e9, iZ_clamp hi0 (by omega)]) (fun c' hc' => zup_o hc')] at hP hD
  exact K H1 locs1 ⟨hP, hD⟩ hS1
/-- System.arraycopy of the first n ints of one array to another's beginning -/
theorem z_copy (h : zC Γ ω own cc nL fr lo rt post) {index : Nat} (hw : Cond.methodLink own index arraycopyName ∈ AL) (hdg : decode cc pc = .ok (.invokestatic index, 3)) {c0 c1 : Int} (hcl0 : 0 ≤ c0 ∧ c0 < (ω.2.2.1 : Int)) (hcl1 : 0 ≤ c1 ∧ c1 < (ω.2.2.1 : Int)) {n : Nat} (he0 : ∀ r, ω.2.2.2.2 c0 r = .inl (ω.2.1 0, n, .inl (fun j => iZ (r j)))) (he1 : ∀ r, ω.2.2.2.2 c1 r = .inl (ω.2.1 0, n, .inl (fun j => iZ (r j)))) (hn9 : n ≤ 2000000000) (hfr1 : 1 ≤ fr) (hlo1 : (st.map fun v => v.category).sum + (nativeFrameWords "java/lang/System" "arraycopy" 5 + 11) ≤ lo) (kk : Z Γ ω (fun c' i' => if c' = c1 ∧ 0 ≤ i' ∧ i' < (n : Int) then μ c0 i' else μ c' i') (pc + 3) L st) : Z Γ ω μ pc L (.int (iZ (n : Int)) :: .int (iZ 0) :: .ref (ω.2.2.2.1 c1) :: .int (iZ 0) :: .ref (ω.2.2.2.1 c0) :: st) := by
  obtain ⟨p, l, e, R, s, m, args, below, meth, cq, hV, hH0, hnl, hx, hb, hml, hown, hts, hK, hr, hlk, hfr, hlo⟩ := h
  intro H locs ls hH hS hl
  have K := fun H locs hH hS => kk H locs ls hH hS hl
  rw [hV] at K ⊢
  have z0 : (iZ 0).toNatClampNeg = 0 := rfl
  have zn : (iZ (n : Int)).toNatClampNeg = n := by rw [iZ_clamp (by omega) (by omega)]; omega
  refine va_copyi hx hb (by rw [hl.1, hnl, hml]) hown (hts _ hw) (hts _ qN_Sys_arraycopy) (hts _ qT_Sys_arraycopy) (hts _ qi_J10) hK.1 hH.1 hH.2 hS c0.toNat c1.toNat 0 0 (by rw [zws_at hcl0.1 hcl0.2, he0]) (by rw [zws_at hcl1.1 hcl1.2, he1]) rfl rfl rfl (by decide) (by decide) (nI_pos (by omega)) (by rw [z0, zn]; omega) (by rw [z0, zn]; omega) (fun _ _ => rfl) (Nat.le_trans hfr1 hfr) (Nat.le_trans hlo1 hlo) hdg (fun H1 locs1 hP hD hS1 => ?_)
  have e9 : (fun j : Nat => iZ ((fun i' => if c1 = c1 ∧ 0 ≤ i' ∧ i' < (n : Int) then μ c0 i' else μ c1 i') (j : Int))) = va_cpy (fun j : Nat => iZ (μ c0 j)) (fun j : Nat => iZ (μ c1 j)) (iZ 0).toNatClampNeg (iZ 0).toNatClampNeg (iZ (n : Int)).toNatClampNeg := by
    rw [z0, zn]
    funext j
    unfold va_cpy
    by_cases hj : j < n
    · have h1 : c1 = c1 ∧ 0 ≤ (j : Int) ∧ (j : Int) < (n : Int) := ⟨rfl, by omega, by omega⟩
      have h2 : 0 ≤ j ∧ j < 0 + n := by omega
      have h3 : 0 + (j - 0) = j := by omega
      simp only [h1, h2, h3, and_self, if_true]
    · have h1 : ¬ (c1 = c1 ∧ 0 ≤ (j : Int) ∧ (j : Int) < (n : Int)) := by omega
      have h2 : ¬ (0 ≤ j ∧ j < 0 + n) := by omega
      dsimp only
      rw [if_neg h1, if_neg h2]
  rw [zws_set (μ' := fun c' i' => if c' = c1 ∧ 0 ≤ i' ∧ i' < (n : Int) then μ c0 i' else μ c' i') hcl1.1 hcl1.2 (by rw [he1, e9]) (fun c' hc' => by funext i'; simp only [hc', false_and, if_false])] at hP hD
  exact K H1 locs1 ⟨hP, hD⟩ hS1
theorem z_max (h : zC Γ ω own cc nL fr lo rt post) {index : Nat} (hw : Cond.methodLink own index Lib.Math.max.name ∈ AL) {a b : Int} (hdg : decode cc pc = .ok (.invokestatic index, 3)) (ha : -2147483648 ≤ a ∧ a ≤ 2147483647) (hb1 : -2147483648 ≤ b ∧ b ≤ 2147483647) (hfr1 : 1 ≤ fr) (hlo1 : (st.map fun v => v.category).sum + 13 ≤ lo) (kk : Z Γ ω μ (pc + 3) L (.int (iZ (if a < b then b else a)) :: st)) : Z Γ ω μ pc L (.int (iZ b) :: .int (iZ a) :: st) := by
  obtain ⟨p, l, e, R, s, m, args, below, meth, cq, hV, hH0, hnl, hx, hb, hml, hown, hts, hK, hr, hlk, hfr, hlo⟩ := h
  intro H locs ls hH hS hl
  have K := kk H locs ls hH hS hl
  rw [hV] at K ⊢
  refine va_mmax hx hb (by rw [hl.1, hnl, hml]) hown (hts _ hw) (hts _ qT_J9_max_7cf53) (hts _ qi_J9) (hts _ qC_J9_max_7cf53) (Nat.le_trans hfr1 hfr) (Nat.le_trans hlo1 hlo) (Nat.zero_le _) (Nat.zero_le _) hdg ?_
  have e9 : (if iZ a < iZ b then iZ b else iZ a) = iZ (if a < b then b else a) := by
    by_cases q : a < b
    · rw [if_pos q, if_pos ((iZ_lt ha hb1).mpr q)]
    · rw [if_neg q, if_neg (fun z => q ((iZ_lt ha hb1).mp z))]
  rw [e9]
  exact K
theorem z_min (h : zC Γ ω own cc nL fr lo rt post) {index : Nat} (hw : Cond.methodLink own index Lib.Math.min.name ∈ AL) {a b : Int} (hdg : decode cc pc = .ok (.invokestatic index, 3)) (ha : -2147483648 ≤ a ∧ a ≤ 2147483647) (hb1 : -2147483648 ≤ b ∧ b ≤ 2147483647) (hfr1 : 1 ≤ fr) (hlo1 : (st.map fun v => v.category).sum + 13 ≤ lo) (kk : Z Γ ω μ (pc + 3) L (.int (iZ (if b < a then b else a)) :: st)) : Z Γ ω μ pc L (.int (iZ b) :: .int (iZ a) :: st) := by
  obtain ⟨p, l, e, R, s, m, args, below, meth, cq, hV, hH0, hnl, hx, hb, hml, hown, hts, hK, hr, hlk, hfr, hlo⟩ := h
  intro H locs ls hH hS hl
  have K := kk H locs ls hH hS hl
  rw [hV] at K ⊢
  refine va_mmin hx hb (by rw [hl.1, hnl, hml]) hown (hts _ hw) (hts _ qT_J9_min_7cf53) (hts _ qi_J9) (hts _ qC_J9_min_7cf53) (Nat.le_trans hfr1 hfr) (Nat.le_trans hlo1 hlo) (Nat.zero_le _) (Nat.zero_le _) hdg ?_
  have e9 : (if iZ b < iZ a then iZ b else iZ a) = iZ (if b < a then b else a) := by
    by_cases q : b < a
    · rw [if_pos q, if_pos ((iZ_lt hb1 ha).mpr q)]
    · rw [if_neg q, if_neg (fun z => q ((iZ_lt hb1 ha).mp z))]
  rw [e9]
  exact K
/-! ends -/
theorem z_iret (h : zC Γ ω own cc nL fr lo (some .int) post) {v : Int32} (hdg : decode cc pc = .ok (.ireturn, 1)) (hp : post (some (.int v)) μ) : Z Γ ω μ pc L [.int v] := by
  obtain ⟨p, l, e, R, s, m, args, below, meth, c, hV, hH0, hnl, hx, hb, hml, hown, hts, hK, hr, hlk, hfr, hlo⟩ := h
  intro H locs ls hH hS hl
  rw [hV]
  rw [hH0] at hS
  exact W.iret hx hb hr (fun t ht hW => ⟨⟨_, μ, rfl, hp, by rw [ht]; exact hH⟩, hS.F ht⟩) hS.2.2 hdg hlk
theorem z_zret (h : zC Γ ω own cc nL fr lo (some .boolean) post) {P : Prop} [Decidable P] (hdg : decode cc pc = .ok (.ireturn, 1)) (hp : post (some (.int (iZ (zB P)))) μ) : Z Γ ω μ pc L [.int (iZ (zB P))] := by
  obtain ⟨p, l, e, R, s, m, args, below, meth, c, hV, hH0, hnl, hx, hb, hml, hown, hts, hK, hr, hlk, hfr, hlo⟩ := h
  intro H locs ls hH hS hl
  rw [hV]
  rw [hH0] at hS
  exact W.zret hx hb hr (by by_cases z : P <;> simp [zB, z] <;> rfl) (fun t ht hW => ⟨⟨_, μ, rfl, hp, by rw [ht]; exact hH⟩, hS.F ht⟩) hS.2.2 hdg hlk
theorem z_zret1 (h : zC Γ ω own cc nL fr lo (some .boolean) post) (hdg : decode cc pc = .ok (.ireturn, 1)) (hp : post (some (.int (iZ 1))) μ) : Z Γ ω μ pc L [.int (iZ 1)] := z_zret (P := True) h hdg hp
theorem z_zret0 (h : zC Γ ω own cc nL fr lo (some .boolean) post) (hdg : decode cc pc = .ok (.ireturn, 1)) (hp : post (some (.int (iZ 0))) μ) : Z Γ ω μ pc L [.int (iZ 0)] := z_zret (P := False) h hdg hp
theorem z_cret (h : zC Γ ω own cc nL fr lo (some .char) post) {a : Int} (ha : 0 ≤ a ∧ a ≤ 65535) (hdg : decode cc pc = .ok (.ireturn, 1)) (hp : post (some (.int (iZ a))) μ) : Z Γ ω μ pc L [.int (iZ a)] := by
  obtain ⟨p, l, e, R, s, m, args, below, meth, c, hV, hH0, hnl, hx, hb, hml, hown, hts, hK, hr, hlk, hfr, hlo⟩ := h
  intro H locs ls hH hS hl
  rw [hV]
  rw [hH0] at hS
  obtain ⟨n, rfl⟩ := Int.eq_ofNat_of_zero_le ha.1
  exact W.zret hx hb hr (pk_charN (q := n) (by omega)).1 (fun t ht hW => ⟨⟨_, μ, rfl, hp, by rw [ht]; exact hH⟩, hS.F ht⟩) hS.2.2 hdg hlk
theorem z_vret (h : zC Γ ω own cc nL fr lo none post) (hdg : decode cc pc = .ok (.return_, 1)) (hp : post none μ) : Z Γ ω μ pc L [] := by
  obtain ⟨p, l, e, R, s, m, args, below, meth, c, hV, hH0, hnl, hx, hb, hml, hown, hts, hK, hr, hlk, hfr, hlo⟩ := h
  intro H locs ls hH hS hl
  rw [hV]
  rw [hH0] at hS
  exact W.vret hx hb hr (fun t ht hW => ⟨⟨_, μ, rfl, hp, by rw [ht]; exact hH⟩, hS.F ht⟩) hS.2.2 hdg hlk
theorem z_aret {C : String} (h : zC Γ ω own cc nL fr lo (some (.object C)) post) {a : Nat} (hdg : decode cc pc = .ok (.areturn, 1)) (hp : post (some (.ref a)) μ) : Z Γ ω μ pc L [.ref a] := by
  obtain ⟨p, l, e, R, s, m, args, below, meth, c, hV, hH0, hnl, hx, hb, hml, hown, hts, hK, hr, hlk, hfr, hlo⟩ := h
  intro H locs ls hH hS hl
  rw [hV]
  rw [hH0] at hS
  exact W.aret hx hb hr (Or.inl ⟨_, rfl⟩) (Or.inr ⟨_, rfl⟩) (fun t ht hW => ⟨⟨_, μ, rfl, hp, by rw [ht]; exact hH⟩, hS.F ht⟩) hS.2.2 hdg hlk
theorem z_lret (h : zC Γ ω own cc nL fr lo (some .long) post) {a : Int64} (hdg : decode cc pc = .ok (.lreturn, 1)) (hp : post (some (.long a)) μ) : Z Γ ω μ pc L [.long a] := by
  obtain ⟨p, l, e, R, s, m, args, below, meth, c, hV, hH0, hnl, hx, hb, hml, hown, hts, hK, hr, hlk, hfr, hlo⟩ := h
  intro H locs ls hH hS hl
  rw [hV]
  rw [hH0] at hS
  exact W.lret hx hb hr (fun t ht hW => ⟨⟨_, μ, rfl, hp, by rw [ht]; exact hH⟩, hS.F ht⟩) hS.2.2 hdg hlk
end ZR
/-! calls -/
section ZCALL
variable {p : Program} {l : Launch} {e : Env} {R : Room} {s : State} {m : MethodId} {args : Array Value} {below : List Frame} {meth : Method} {c : Code} {H : Heap} {locs : List Loc} {Q : State → Prop}
variable {pc : Nat} {ls : Array Slot} {rest st0 : List Value} {a : Array Value} {A : Nat → Prop} {H0 : Heap} {ω : zO} {post : Option Value → zM → Prop}
theorem zc_go (hr : va_Run p l e R s m args below meth c H locs 0 0 0 0 (F0 m pc ls st0) rest (zQ ω A post a) A) (hS : va_S A H0 H locs)
    (kk : ∀ (v : Option Value) (μ' : zM) (H1 : Heap) (locs1 : List Loc), post v μ' → zH ω A μ' H1 → va_S A H0 H1 locs1 → W p l e R s m args below meth c H1 locs1 0 0 Q (F0 m (pc + 3) ls (v.toList ++ rest))) : W p l e R s m args below meth c H locs 0 0 Q (F0 m pc ls st0) := by
  intro T hT X
  obtain ⟨v, st₀, t, T', L, h0, X', hL, e1, e2, ⟨⟨v', μ', hv, hp, hb⟩, hz, hk⟩, st⟩ := hr T hT X
  cases hv
  rw [h0] at hz hk
  obtain ⟨t2, a1, b1⟩ := kk v μ' T'.heap (locs ++ L) hp (by rw [e1]; exact hb)
    ⟨Nat.le_trans hS.1 (by rw [e1]; exact hz), fun q h1 h2 => by rw [e1, hk q (Nat.lt_of_lt_of_le h1 hS.1) h2]; exact hS.2.1 q h1 h2, fun q hq => by
      rcases List.mem_append.mp hq with h | h
      · exact hS.2.2 q h
      · exact hL q h⟩ T' rfl X'
  exact ⟨t2, st t2 a1, b1⟩
end ZCALL
section ZCR
variable {Γ : zG} {ω : zO} {own : String} {cc : ByteArray} {nL fr lo : Nat} {rt : Option FieldType} {post : Option Value → zM → Prop} {μ : zM} {pc : Nat} {L : List (Nat × Value)} {rest : List Value}
variable {y : MethodName} {bytes : ByteArray} {maxL fr1 lo1 index : Nat} {ret : Option FieldType} {post1 : Option Value → zM → Prop}
theorem zP_blind {A : Nat → Prop} {vs : List Value} : FrameBlind (va_Pc vs (zP ω A μ)) := fun a U g mk q => ⟨q.1, zK.same (u := U) (U := U.calling g mk a) rfl q.2.1, q.2.2⟩
/-- a virtual call of the cell o's method -/
theorem z_callV (h : zC Γ ω own cc nL fr lo rt post) {ci : Nat} {T : u_T} {N : Nat} {o : Int} (As : List Value) (nA : Nat) (hnA : As.length = nA) (hdg : decode cc pc = .ok (.invokevirtual index, 3)) (hM : ∀ l, zMet l ω Γ.2.2.1 y bytes maxL ret fr1 lo1 (.ref (ω.2.2.2.1 o) :: As) μ post1)
    (h1 : Cond.methodLink own index y ∈ AL) (h2 : Cond.instanceMethod y ∈ AL) (h3 : Cond.selects y.cls y y ∈ AL) (h4 : Cond.initialized y.cls ∈ AL) (h5 : Cond.code y bytes maxL ret ∈ AL) (hd : y.cls = y.cls ∧ y.cls ≠ "java/lang/invoke/MethodHandle" ∧ y.cls ≠ "java/lang/invoke/VarHandle" ∧ (parseMethodDescriptor y.desc).map (fun d => d.parameters.length) = some nA) (hfr1 : fr1 + 1 ≤ fr) (hlo1 : 8 + (maxL + 11) + lo1 ≤ lo)
    (hcl : 0 ≤ o ∧ o < (ω.2.2.1 : Int)) {F : (Int → Int) → List Value} (he : ∀ r, ω.2.2.2.2 o r = .inr (ci, F r)) (hc : zcl[ci]? = some (y.cls, T, N)) (hcat : (rest.map fun v => v.category).sum ≤ 8)
    (kk : ∀ (v : Option Value) (μ' : zM), post1 v μ' → Z Γ ω μ' (pc + 3) L (v.toList ++ rest)) {st : List Value} (hst : st = As.reverse ++ .ref (ω.2.2.2.1 o) :: rest) : Z Γ ω μ pc L st := by
  obtain ⟨p, l, e, R, s, m, args, below, meth, c, hV, hH0, hnl, hx, hb, hml, hown, hts, hK, hr, hlk, hfr, hlo⟩ := h
  intro H locs ls hH hS hl
  have K := fun v μ' H locs q hH hS => kk v μ' q H locs ls hH hS hl
  rw [hV] at K ⊢
  refine zc_go (va_runV (As := As) (rest := rest) ⟨hx, hb, hml, hown, hts⟩ (hM l) (cwV nA hts (al_gv h1 h2 h3 h4 h5) rfl rfl rfl hd ⟨Nat.le_trans hfr1 hfr, Nat.le_trans hlo1 hlo⟩) ⟨zP_blind, va_recv hK.1 hH.1 hc (by rw [zws_at hcl.1 hcl.2, he]), fun U hU hW => ⟨rfl, hK.warm hW, by rw [hU]; exact hH⟩⟩ rfl hnA (by show ls.size = _; rw [hl.1, hnl]) hst (lv_room hcat) hdg ⟨Nat.zero_le _, Nat.zero_le _⟩) hS (fun v μ' H1 locs1 q1 q2 q3 => K v μ' H1 locs1 q1 q2 q3)
/-- a static call within the class -/
theorem z_callS (h : zC Γ ω own cc nL fr lo rt post) (As : List Value) (nA : Nat) (hnA : As.length = nA) (hdg : decode cc pc = .ok (.invokestatic index, 3)) (hM : ∀ l, zMet l ω Γ.2.2.1 y bytes maxL ret fr1 lo1 As μ post1)
    (h1 : Cond.methodLink own index y ∈ AL) (h2 : Cond.static y ∈ AL) (h4 : Cond.initialized y.cls ∈ AL) (h5 : Cond.code y bytes maxL ret ∈ AL) (hd : y.cls ≠ "java/lang/invoke/MethodHandle" ∧ y.cls ≠ "java/lang/invoke/VarHandle" ∧ (parseMethodDescriptor y.desc).map (fun d => d.parameters.length) = some nA) (hfr1 : fr1 + 1 ≤ fr) (hlo1 : 8 + (maxL + 11) + lo1 ≤ lo)
    (hcat : (rest.map fun v => v.category).sum ≤ 8)
    (kk : ∀ (v : Option Value) (μ' : zM), post1 v μ' → Z Γ ω μ' (pc + 3) L (v.toList ++ rest)) {st : List Value} (hst : st = As.reverse ++ rest) : Z Γ ω μ pc L st := by
  obtain ⟨p, l, e, R, s, m, args, below, meth, c, hV, hH0, hnl, hx, hb, hml, hown, hts, hK, hr, hlk, hfr, hlo⟩ := h
  intro H locs ls hH hS hl
  have K := fun v μ' H locs q hH hS => kk v μ' q H locs ls hH hS hl
  rw [hV] at K ⊢
  refine zc_go (va_runS (As := As) (rest := rest) ⟨hx, hb, hml, hown, hts⟩ (hM l) (va_cwS nA hts (al_gs h1 h2 h4 h5) rfl rfl rfl hd ⟨Nat.le_trans hfr1 hfr, Nat.le_trans hlo1 hlo⟩) ⟨zP_blind, fun U hU hW => ⟨rfl, hK.warm hW, by rw [hU]; exact hH⟩⟩ rfl hnA (by show ls.size = _; rw [hl.1, hnl]) hst (lv_room hcat) hdg ⟨Nat.zero_le _, Nat.zero_le _⟩) hS (fun v μ' H1 locs1 q1 q2 q3 => K v μ' H1 locs1 q1 q2 q3)
/-- a static call of a private method of the nest's host -/
theorem z_callSN (h : zC Γ ω own cc nL fr lo rt post) (As : List Value) (nA : Nat) (hnA : As.length = nA) (hdg : decode cc pc = .ok (.invokestatic index, 3)) (hM : ∀ l, zMet l ω Γ.2.2.1 y bytes maxL ret fr1 lo1 As μ post1)
    (h1 : Cond.methodLinkNest own index y RX7 ∈ zNst) (h2 : Cond.static y ∈ AL) (h4 : Cond.initialized y.cls ∈ AL) (h5 : Cond.code y bytes maxL ret ∈ AL) (hd : y.cls ≠ "java/lang/invoke/MethodHandle" ∧ y.cls ≠ "java/lang/invoke/VarHandle" ∧ (parseMethodDescriptor y.desc).map (fun d => d.parameters.length) = some nA) (hfr1 : fr1 + 1 ≤ fr) (hlo1 : 8 + (maxL + 11) + lo1 ≤ lo)
    (hcat : (rest.map fun v => v.category).sum ≤ 8)
    (kk : ∀ (v : Option Value) (μ' : zM), post1 v μ' → Z Γ ω μ' (pc + 3) L (v.toList ++ rest)) {st : List Value} (hst : st = As.reverse ++ rest) : Z Γ ω μ pc L st := by
  obtain ⟨p, l, e, R, s, m, args, below, meth, c, hV, hH0, hnl, hx, hb, hml, hown, hts, hK, hr, hlk, hfr, hlo⟩ := h
  intro H locs ls hH hS hl
  have K := fun v μ' H locs q hH hS => kk v μ' q H locs ls hH hS hl
  rw [hV] at K ⊢
  refine zc_go (va_runSN (As := As) (rest := rest) ⟨hx, hb, hml, hown, hts⟩ (hM l) ⟨va_cnB nA hts (al_g h5) rfl rfl rfl (hK.2 _ h1) (hts _ h4) hd ⟨Nat.le_trans hfr1 hfr, Nat.le_trans hlo1 hlo⟩, hts _ h2, trivial⟩ ⟨zP_blind, fun U hU hW => ⟨rfl, hK.warm hW, by rw [hU]; exact hH⟩⟩ rfl hnA (by show ls.size = _; rw [hl.1, hnl]) hst (lv_room hcat) hdg ⟨Nat.zero_le _, Nat.zero_le _⟩) hS (fun v μ' H1 locs1 q1 q2 q3 => K v μ' H1 locs1 q1 q2 q3)
def zpI (r : Value) (P : zM → Prop) : Option Value → zM → Prop := fun v μ' => v = some r ∧ P μ'
def zpV (P : zM → Prop) : Option Value → zM → Prop := fun v μ' => v = none ∧ P μ'
theorem zk_pure {r : Value} (kk : Z Γ ω μ pc L (r :: rest)) : ∀ (v : Option Value) (μ' : zM), zpI r (fun m => m = μ) v μ' → Z Γ ω μ' pc L (v.toList ++ rest) := by
  intro v μ' h
  rw [h.1, h.2]
  exact kk
theorem zk_int {r : Value} {P : zM → Prop} (kk : ∀ μ', P μ' → Z Γ ω μ' pc L (r :: rest)) : ∀ (v : Option Value) (μ' : zM), zpI r P v μ' → Z Γ ω μ' pc L (v.toList ++ rest) := by
  intro v μ' h
  rw [h.1]
  exact kk μ' h.2
theorem zk_void {P : zM → Prop} (kk : ∀ μ', P μ' → Z Γ ω μ' pc L rest) : ∀ (v : Option Value) (μ' : zM), zpV P v μ' → Z Γ ω μ' pc L (v.toList ++ rest) := by
  intro v μ' h
  rw [h.1]
  exact kk μ' h.2
end ZCR
end
section
/-! THE CLASS'S CELLS: six desks of 26 cells each (0 the desk, 1 the trial, 2 to 5 the history's), then the object, its history, the states, its script, the characters, the numbers, its finding. -/
def ccd (ca : Nat → ClassId) (ad : Int → Nat) (c : Int) (r : Int → Int) : va_E :=
  if c < 156 then
    if c % 26 = 0 then .inr (2, [.ref (ad (c + 1)), .ref (ad (c + 2)), .ref (ad (c + 3)), .ref (ad (c + 4)), .int (iZ (r 4)), .int (iZ (r 5)), .int (iZ (r 6)), .int (iZ (r 7)), .ref (ad (c + 5)), .int (iZ (r 9)), .int (iZ (r 10)), .int (iZ (r 11))])
    else if c % 26 = 1 then .inl (ca 0, 8, .inl (fun j => iZ (r j)))
    else if c % 26 = 2 then .inl (ca 0, 8, .inl (fun j => iZ (r j)))
    else if c % 26 = 3 then .inl (ca 2, 5, .inr (.inr (.inr (.inr (fun j => some (ad (c + 3 + (j : Int))))))))
    else if c % 26 = 4 then .inl (ca 3, 10, .inr (.inr (.inr (.inr (fun j => some (ad (c + 12 + (j : Int))))))))
    else if c % 26 = 5 then .inr (1, [.int (iZ (r 0)), .int (iZ (r 1)), .int (iZ (r 2)), .int (iZ (r 3)), .int (iZ (r 4)), .int (iZ (r 5)), .int (iZ (r 6)), .int (iZ (r 7))])
    else if c % 26 < 11 then .inr (6, [.int (iZ (r 0)), .int (iZ (r 1)), .int (iZ (r 2)), .int (iZ (r 3)), .int (iZ (r 4)), .int (iZ (r 5)), .int (iZ (r 6)), .ref (ad (c + 5))])
    else if c % 26 < 16 then .inl (ca 0, 10, .inl (fun j => iZ (r j)))
    else .inr (0, [.int (iZ (r 0)), .int (iZ (r 1)), .int (iZ (r 2)), .int (iZ (r 3)), .int (iZ (r 4)), .int (iZ (r 5)), .int (iZ (r 6)), .int (iZ (r 7))])
  else if c = 156 then .inr (7, [.ref (ad 0), .ref (ad 26), .ref (ad 157), .ref (ad 159), .ref (ad 162)])
  else if c = 157 then .inr (4, [.ref (ad 158), .int (iZ (r 1))])
  else if c = 158 then .inl (ca 4, 4, .inr (.inr (.inr (.inr (fun j => some (ad (26 * r (j : Int))))))))
  else if c = 159 then .inr (5, [.ref (ad 160), .int (iZ (r 1)), .int (iZ (r 2)), .ref (ad 161), .int (iZ (r 4))])
  else if c = 160 then .inl (ca 1, 60, .inl (fun j => iZ (r j)))
  else if c = 161 then .inl (ca 0, 6, .inl (fun j => iZ (r j)))
  else .inr (3, [.int (iZ (r 0)), .int (iZ (r 1)), .int (iZ (r 2)), .int (iZ (r 3))])
abbrev cω (G : va_G) (ca : Nat → ClassId) (ad : Int → Nat) : zO := (G, ca, 163, ad, ccd ca ad)
/-- the first cell of a desk -/
def zb (b : Int) : Prop := ∃ j : Int, 0 ≤ j ∧ j ≤ 5 ∧ b = 26 * j
theorem zb_0 : zb 0 := ⟨0, by omega⟩
theorem zb_26 : zb 26 := ⟨1, by omega⟩
section CW
variable {ca : Nat → ClassId} {ad : Int → Nat} {b k : Int}
theorem cl_desk (hb : zb b) : 0 ≤ b ∧ b < ((163 : Nat) : Int) := by obtain ⟨j, h1, h2, rfl⟩ := hb; omega
theorem cd_desk (hb : zb b) : ∀ r, ccd ca ad b r = .inr (2, [.ref (ad (b + 1)), .ref (ad (b + 2)), .ref (ad (b + 3)), .ref (ad (b + 4)), .int (iZ (r 4)), .int (iZ (r 5)), .int (iZ (r 6)), .int (iZ (r 7)), .ref (ad (b + 5)), .int (iZ (r 9)), .int (iZ (r 10)), .int (iZ (r 11))]) := by
  obtain ⟨j, h1, h2, rfl⟩ := hb
  intro r
  unfold ccd
  rw [if_pos (by omega), if_pos (by omega)]
theorem cl_x (hb : zb b) : 0 ≤ b + 1 ∧ b + 1 < ((163 : Nat) : Int) := by obtain ⟨j, h1, h2, rfl⟩ := hb; omega
theorem cd_x (hb : zb b) : ∀ r, ccd ca ad (b + 1) r = .inl (ca 0, 8, .inl (fun j => iZ (r j))) := by
  obtain ⟨j, h1, h2, rfl⟩ := hb
  intro r
  unfold ccd
  rw [if_pos (by omega), if_neg (by omega), if_pos (by omega)]
theorem cl_y (hb : zb b) : 0 ≤ b + 2 ∧ b + 2 < ((163 : Nat) : Int) := by obtain ⟨j, h1, h2, rfl⟩ := hb; omega
theorem cd_y (hb : zb b) : ∀ r, ccd ca ad (b + 2) r = .inl (ca 0, 8, .inl (fun j => iZ (r j))) := by
  obtain ⟨j, h1, h2, rfl⟩ := hb
  intro r
  unfold ccd
  rw [if_pos (by omega), if_neg (by omega), if_neg (by omega), if_pos (by omega)]
theorem cl_ships (hb : zb b) : 0 ≤ b + 3 ∧ b + 3 < ((163 : Nat) : Int) := by obtain ⟨j, h1, h2, rfl⟩ := hb; omega
theorem cd_ships (hb : zb b) : ∀ r, ccd ca ad (b + 3) r = .inl (ca 2, 5, .inr (.inr (.inr (.inr (fun j => some (ad (b + 6 + (j : Int)))))))) := by
  obtain ⟨j, h1, h2, rfl⟩ := hb
  intro r
  unfold ccd
  rw [if_pos (by omega), if_neg (by omega), if_neg (by omega), if_neg (by omega), if_pos (by omega), show 26 * j + 3 + 3 = 26 * j + 6 by omega]
theorem cl_cargoes (hb : zb b) : 0 ≤ b + 4 ∧ b + 4 < ((163 : Nat) : Int) := by obtain ⟨j, h1, h2, rfl⟩ := hb; omega
theorem cd_cargoes (hb : zb b) : ∀ r, ccd ca ad (b + 4) r = .inl (ca 3, 10, .inr (.inr (.inr (.inr (fun j => some (ad (b + 16 + (j : Int)))))))) := by
  obtain ⟨j, h1, h2, rfl⟩ := hb
  intro r
  unfold ccd
  rw [if_pos (by omega), if_neg (by omega), if_neg (by omega), if_neg (by omega), if_neg (by omega), if_pos (by omega), show 26 * j + 4 + 12 = 26 * j + 16 by omega]
theorem cl_course (hb : zb b) : 0 ≤ b + 5 ∧ b + 5 < ((163 : Nat) : Int) := by obtain ⟨j, h1, h2, rfl⟩ := hb; omega
theorem cd_course (hb : zb b) : ∀ r, ccd ca ad (b + 5) r = .inr (1, [.int (iZ (r 0)), .int (iZ (r 1)), .int (iZ (r 2)), .int (iZ (r 3)), .int (iZ (r 4)), .int (iZ (r 5)), .int (iZ (r 6)), .int (iZ (r 7))]) := by
  obtain ⟨j, h1, h2, rfl⟩ := hb
  intro r
  unfold ccd
  rw [if_pos (by omega), if_neg (by omega), if_neg (by omega), if_neg (by omega), if_neg (by omega), if_neg (by omega), if_pos (by omega)]
theorem cl_ship (hb : zb b) (hk : 0 ≤ k ∧ k < 5) : 0 ≤ b + 6 + k ∧ b + 6 + k < ((163 : Nat) : Int) := by obtain ⟨j, h1, h2, rfl⟩ := hb; omega
theorem cd_ship (hb : zb b) (hk : 0 ≤ k ∧ k < 5) : ∀ r, ccd ca ad (b + 6 + k) r = .inr (6, [.int (iZ (r 0)), .int (iZ (r 1)), .int (iZ (r 2)), .int (iZ (r 3)), .int (iZ (r 4)), .int (iZ (r 5)), .int (iZ (r 6)), .ref (ad (b + 11 + k))]) := by
  obtain ⟨j, h1, h2, rfl⟩ := hb
  intro r
  unfold ccd
  rw [if_pos (by omega), if_neg (by omega), if_neg (by omega), if_neg (by omega), if_neg (by omega), if_neg (by omega), if_neg (by omega), if_pos (by omega), show 26 * j + 6 + k + 5 = 26 * j + 11 + k by omega]
theorem cl_fx (hb : zb b) (hk : 0 ≤ k ∧ k < 5) : 0 ≤ b + 11 + k ∧ b + 11 + k < ((163 : Nat) : Int) := by obtain ⟨j, h1, h2, rfl⟩ := hb; omega
theorem cd_fx (hb : zb b) (hk : 0 ≤ k ∧ k < 5) : ∀ r, ccd ca ad (b + 11 + k) r = .inl (ca 0, 10, .inl (fun j => iZ (r j))) := by
  obtain ⟨j, h1, h2, rfl⟩ := hb
  intro r
  unfold ccd
  rw [if_pos (by omega), if_neg (by omega), if_neg (by omega), if_neg (by omega), if_neg (by omega), if_neg (by omega), if_neg (by omega), if_neg (by omega), if_pos (by omega)]
theorem cl_cargo (hb : zb b) (hk : 0 ≤ k ∧ k < 10) : 0 ≤ b + 16 + k ∧ b + 16 + k < ((163 : Nat) : Int) := by obtain ⟨j, h1, h2, rfl⟩ := hb; omega
theorem cd_cargo (hb : zb b) (hk : 0 ≤ k ∧ k < 10) : ∀ r, ccd ca ad (b + 16 + k) r = .inr (0, [.int (iZ (r 0)), .int (iZ (r 1)), .int (iZ (r 2)), .int (iZ (r 3)), .int (iZ (r 4)), .int (iZ (r 5)), .int (iZ (r 6)), .int (iZ (r 7))]) := by
  obtain ⟨j, h1, h2, rfl⟩ := hb
  intro r
  unfold ccd
  rw [if_pos (by omega), if_neg (by omega), if_neg (by omega), if_neg (by omega), if_neg (by omega), if_neg (by omega), if_neg (by omega), if_neg (by omega), if_neg (by omega)]
theorem cl_main : 0 ≤ (156 : Int) ∧ (156 : Int) < ((163 : Nat) : Int) := by omega
theorem cd_main : ∀ r, ccd ca ad 156 r = .inr (7, [.ref (ad 0), .ref (ad 26), .ref (ad 157), .ref (ad 159), .ref (ad 162)]) := fun _ => rfl
theorem cl_hist : 0 ≤ (157 : Int) ∧ (157 : Int) < ((163 : Nat) : Int) := by omega
theorem cd_hist : ∀ r, ccd ca ad 157 r = .inr (4, [.ref (ad 158), .int (iZ (r 1))]) := fun _ => rfl
theorem cl_states : 0 ≤ (158 : Int) ∧ (158 : Int) < ((163 : Nat) : Int) := by omega
theorem cd_states : ∀ r, ccd ca ad 158 r = .inl (ca 4, 4, .inr (.inr (.inr (.inr (fun j => some (ad (26 * r (j : Int)))))))) := fun _ => rfl
theorem cl_script : 0 ≤ (159 : Int) ∧ (159 : Int) < ((163 : Nat) : Int) := by omega
theorem cd_script : ∀ r, ccd ca ad 159 r = .inr (5, [.ref (ad 160), .int (iZ (r 1)), .int (iZ (r 2)), .ref (ad 161), .int (iZ (r 4))]) := fun _ => rfl
theorem cl_chars : 0 ≤ (160 : Int) ∧ (160 : Int) < ((163 : Nat) : Int) := by omega
theorem cd_chars : ∀ r, ccd ca ad 160 r = .inl (ca 1, 60, .inl (fun j => iZ (r j))) := fun _ => rfl
theorem cl_nums : 0 ≤ (161 : Int) ∧ (161 : Int) < ((163 : Nat) : Int) := by omega
theorem cd_nums : ∀ r, ccd ca ad 161 r = .inl (ca 0, 6, .inl (fun j => iZ (r j))) := fun _ => rfl
theorem cl_find : 0 ≤ (162 : Int) ∧ (162 : Int) < ((163 : Nat) : Int) := by omega
theorem cd_find : ∀ r, ccd ca ad 162 r = .inr (3, [.int (iZ (r 0)), .int (iZ (r 1)), .int (iZ (r 2)), .int (iZ (r 3))]) := fun _ => rfl
end CW
/-! THE REFERENCE'S CELLS: the object, its row of 1330, its text, what was told -/
def rcd (ca : Nat → ClassId) (ad : Int → Nat) (c : Int) (r : Int → Int) : va_E :=
  if c = 0 then .inr (8, [.ref (ad 1), .int (iZ (r 1)), .ref (ad 2), .int (iZ (r 3)), .int (iZ (r 4)), .int (iZ (r 5)), .int (iZ (r 6)), .ref (ad 3), .int (iZ (r 8)), .int (iZ (r 9)), .int (iZ (r 10)), .int (iZ (r 11)), .int (iZ (r 12)), .int (iZ (r 13)), .int (iZ (r 14)), .int (iZ (r 15))])
  else if c = 1 then .inl (ca 0, 1330, .inl (fun j => iZ (r j)))
  else if c = 2 then .inl (ca 1, 60, .inl (fun j => iZ (r j)))
  else .inl (ca 0, 6, .inl (fun j => iZ (r j)))
abbrev rω (G : va_G) (ca : Nat → ClassId) (ad : Int → Nat) : zO := (G, ca, 4, ad, rcd ca ad)
section RW
variable {ca : Nat → ClassId} {ad : Int → Nat}
theorem rl_0 : 0 ≤ (0 : Int) ∧ (0 : Int) < ((4 : Nat) : Int) := by omega
theorem rd_0 : ∀ r, rcd ca ad 0 r = .inr (8, [.ref (ad 1), .int (iZ (r 1)), .ref (ad 2), .int (iZ (r 3)), .int (iZ (r 4)), .int (iZ (r 5)), .int (iZ (r 6)), .ref (ad 3), .int (iZ (r 8)), .int (iZ (r 9)), .int (iZ (r 10)), .int (iZ (r 11)), .int (iZ (r 12)), .int (iZ (r 13)), .int (iZ (r 14)), .int (iZ (r 15))]) := fun _ => rfl
theorem rl_1 : 0 ≤ (1 : Int) ∧ (1 : Int) < ((4 : Nat) : Int) := by omega
theorem rd_1 : ∀ r, rcd ca ad 1 r = .inl (ca 0, 1330, .inl (fun j => iZ (r j))) := fun _ => rfl
theorem rl_2 : 0 ≤ (2 : Int) ∧ (2 : Int) < ((4 : Nat) : Int) := by omega
theorem rd_2 : ∀ r, rcd ca ad 2 r = .inl (ca 1, 60, .inl (fun j => iZ (r j))) := fun _ => rfl
theorem rl_3 : 0 ≤ (3 : Int) ∧ (3 : Int) < ((4 : Nat) : Int) := by omega
theorem rd_3 : ∀ r, rcd ca ad 3 r = .inl (ca 0, 6, .inl (fun j => iZ (r j))) := fun _ => rfl
end RW
/-! WHAT A DESK IS: the cells' ints that count, all else 0 (0: 4 ships 5 cargoes 6 cancelled 7 called off; 1, 2: x, y; 6..: ships; 11..: their fixtures; 16..: cargoes) -/
def zrel (o i : Int) : Prop := (o = 0 ∧ 4 ≤ i ∧ i < 8) ∨ (1 ≤ o ∧ o ≤ 2 ∧ 0 ≤ i ∧ i < 8) ∨ (6 ≤ o ∧ o < 11 ∧ 0 ≤ i ∧ i < 7) ∨ (11 ≤ o ∧ o < 16 ∧ 0 ≤ i ∧ i < 10) ∨ (16 ≤ o ∧ o < 26 ∧ 0 ≤ i ∧ i < 8)
def vw (μ : zM) (b : Int) : zM := fun o i => if (o = 0 ∧ 4 ≤ i ∧ i < 8) ∨ (1 ≤ o ∧ o ≤ 2 ∧ 0 ≤ i ∧ i < 8) ∨ (6 ≤ o ∧ o < 11 ∧ 0 ≤ i ∧ i < 7) ∨ (11 ≤ o ∧ o < 16 ∧ 0 ≤ i ∧ i < 10) ∨ (16 ≤ o ∧ o < 26 ∧ 0 ≤ i ∧ i < 8) then μ (b + o) i else 0
theorem vw_in {μ : zM} {b o i : Int} (h : zrel o i) : vw μ b o i = μ (b + o) i := if_pos h
theorem vw_out {μ : zM} {b o i : Int} (h : ¬ zrel o i) : vw μ b o i = 0 := if_neg h
theorem vw_S {μ : zM} {b : Int} : vw μ b 0 4 = μ b 4 := by rw [vw_in (by unfold zrel; omega), Int.add_zero]
theorem vw_Cn {μ : zM} {b : Int} : vw μ b 0 5 = μ b 5 := by rw [vw_in (by unfold zrel; omega), Int.add_zero]
theorem vw_can {μ : zM} {b : Int} : vw μ b 0 6 = μ b 6 := by rw [vw_in (by unfold zrel; omega), Int.add_zero]
theorem vw_off {μ : zM} {b : Int} : vw μ b 0 7 = μ b 7 := by rw [vw_in (by unfold zrel; omega), Int.add_zero]
theorem vw_x {μ : zM} {b i : Int} (h : 0 ≤ i ∧ i < 8) : vw μ b 1 i = μ (b + 1) i := vw_in (by unfold zrel; omega)
theorem vw_y {μ : zM} {b i : Int} (h : 0 ≤ i ∧ i < 8) : vw μ b 2 i = μ (b + 2) i := vw_in (by unfold zrel; omega)
theorem vw_ship {μ : zM} {b k i : Int} (hk : 0 ≤ k ∧ k < 5) (h : 0 ≤ i ∧ i < 7) : vw μ b (6 + k) i = μ (b + 6 + k) i := by rw [vw_in (by unfold zrel; omega), Int.add_assoc]
theorem vw_fx {μ : zM} {b k i : Int} (hk : 0 ≤ k ∧ k < 5) (h : 0 ≤ i ∧ i < 10) : vw μ b (11 + k) i = μ (b + 11 + k) i := by rw [vw_in (by unfold zrel; omega), Int.add_assoc]
theorem vw_cargo {μ : zM} {b k i : Int} (hk : 0 ≤ k ∧ k < 10) (h : 0 ≤ i ∧ i < 8) : vw μ b (16 + k) i = μ (b + 16 + k) i := by rw [vw_in (by unfold zrel; omega), Int.add_assoc]
theorem vw_up {μ : zM} {b o i z : Int} (h : zrel o i) : vw (zup μ (b + o) i z) b = zup (vw μ b) o i z := by
  funext o' i'
  by_cases h' : zrel o' i'
  · rw [vw_in h']
    by_cases e : o' = o ∧ i' = i
    · rw [e.1, e.2, zup_s, zup_s]
    · rw [zup_n (by omega), zup_n (by omega), vw_in h']
  · rw [vw_out h', zup_n (by
      by_cases e : o' = o
      · right
        intro e2
        rw [e, e2] at h'
        exact h' h
      · exact Or.inl e), vw_out h']
theorem vw_eq {μ μ' : zM} {b b' : Int} (h : ∀ o i, zrel o i → μ' (b' + o) i = μ (b + o) i) : vw μ' b' = vw μ b := by
  funext o i
  by_cases h' : zrel o i
  · rw [vw_in h', vw_in h', h o i h']
  · rw [vw_out h', vw_out h']
end
section
/-! THE NUMBERS: d is a desk (0: 4 ships, 5 cargoes, 6 cancelled, 7 called off; 1, 2: x, y; 6 + k: a ship; 11 + k: its fixtures; 16 + c: a cargo) -/
def zabs (x : Int) : Int := if x < 0 then -x else x
def sFar (d : zM) (p q : Int) : Int := 10 * (zabs (d 1 p - d 1 q) + zabs (d 2 p - d 2 q))
def sSail (d : zM) (k p q : Int) : Int := (sFar d p q + 24 * d (6 + k) 1 - 1) / (24 * d (6 + k) 1)
def sArr (d : zM) (k c p t : Int) : Int := t + sSail d k p (d (16 + c) 1)
def sLoad (d : zM) (k c p t : Int) : Int := if sArr d k c p t < d (16 + c) 3 then d (16 + c) 3 else sArr d k c p t
def sFree (d : zM) (k c p t : Int) : Int := sLoad d k c p t + 2 + sSail d k (d (16 + c) 1) (d (16 + c) 2) + 2
def sEarn (d : zM) (k c p t : Int) : Int := d (16 + c) 0 * d (16 + c) 5 - (sFree d k c p t - t) * d (6 + k) 2
def sMarg (d : zM) (k c p t : Int) : Int := d (16 + c) 4 - sArr d k c p t
/-- port, day and sum of earnings behind the first n fixtures of ship k -/
def sPos (d : zM) (k : Int) : Nat → Int × Int × Int
  | 0 => (d (6 + k) 3, d (6 + k) 4, 0)
  | n + 1 => (d (16 + d (11 + k) (n : Int)) 2, sFree d k (d (11 + k) (n : Int)) (sPos d k n).1 (sPos d k n).2.1, (sPos d k n).2.2 + sEarn d k (d (11 + k) (n : Int)) (sPos d k n).1 (sPos d k n).2.1)
/-! bounds -/
def bP (d : zM) : Prop := ∀ p, 0 ≤ p ∧ p ≤ 7 → (0 ≤ d 1 p ∧ d 1 p ≤ 99) ∧ (0 ≤ d 2 p ∧ d 2 p ≤ 99)
def bN (d : zM) : Prop := (0 ≤ d 0 4 ∧ d 0 4 ≤ 5) ∧ (0 ≤ d 0 5 ∧ d 0 5 ≤ 10)
def bS (d : zM) (k : Int) : Prop := (1 ≤ d (6 + k) 0 ∧ d (6 + k) 0 ≤ 99) ∧ (1 ≤ d (6 + k) 1 ∧ d (6 + k) 1 ≤ 20) ∧ (1 ≤ d (6 + k) 2 ∧ d (6 + k) 2 ≤ 99) ∧ (0 ≤ d (6 + k) 3 ∧ d (6 + k) 3 ≤ 7) ∧ (0 ≤ d (6 + k) 4 ∧ d (6 + k) 4 ≤ 1999) ∧ (0 ≤ d (6 + k) 6 ∧ d (6 + k) 6 ≤ 10)
def bC (d : zM) (c : Int) : Prop := (1 ≤ d (16 + c) 0 ∧ d (16 + c) 0 ≤ 99) ∧ (0 ≤ d (16 + c) 1 ∧ d (16 + c) 1 ≤ 7) ∧ (0 ≤ d (16 + c) 2 ∧ d (16 + c) 2 ≤ 7) ∧ (0 ≤ d (16 + c) 3 ∧ d (16 + c) 3 ≤ 999) ∧ (0 ≤ d (16 + c) 4 ∧ d (16 + c) 4 ≤ 999) ∧ (1 ≤ d (16 + c) 5 ∧ d (16 + c) 5 ≤ 99) ∧ (0 ≤ d (16 + c) 6 ∧ d (16 + c) 6 ≤ 2)
/-- ports, counts, ships and cargoes in their ranges -/
def bD (d : zM) : Prop := bN d ∧ bP d ∧ (∀ k, 0 ≤ k ∧ k < d 0 4 → bS d k) ∧ (∀ c, 0 ≤ c ∧ c < d 0 5 → bC d c)
theorem zabs_b {x : Int} (h : -99 ≤ x ∧ x ≤ 99) : 0 ≤ zabs x ∧ zabs x ≤ 99 := by unfold zabs; split <;> omega
theorem zabs_s (x y : Int) : zabs (x - y) = zabs (y - x) := by unfold zabs; split <;> split <;> omega
theorem sFar_b {d : zM} {p q : Int} (hP : bP d) (hp : 0 ≤ p ∧ p ≤ 7) (hq : 0 ≤ q ∧ q ≤ 7) : 0 ≤ sFar d p q ∧ sFar d p q ≤ 1980 := by
  have h1 := hP p hp
  have h2 := hP q hq
  have h3 := zabs_b (x := d 1 p - d 1 q) (by omega)
  have h4 := zabs_b (x := d 2 p - d 2 q) (by omega)
  unfold sFar
  omega
theorem sSail_b {d : zM} {k p q : Int} (hP : bP d) (hp : 0 ≤ p ∧ p ≤ 7) (hq : 0 ≤ q ∧ q ≤ 7) (hs : 1 ≤ d (6 + k) 1 ∧ d (6 + k) 1 ≤ 20) : 0 ≤ sSail d k p q ∧ sSail d k p q ≤ 83 := by
  have h1 := sFar_b hP hp hq
  unfold sSail
  refine ⟨Int.ediv_nonneg (by omega) (by omega), ?_⟩
  have h2 : (sFar d p q + 24 * d (6 + k) 1 - 1) / (24 * d (6 + k) 1) < 84 := Int.ediv_lt_of_lt_mul (by omega) (by omega)
  omega
theorem vw_c5 {μ : zM} {b i z : Int} : vw (zup μ (b + 5) i z) b = vw μ b := vw_eq (fun o i' h => zup_n (by unfold zrel at h; omega))
theorem vw_fr5 {μ μ' : zM} {b : Int} (h : ∀ c, c ≠ b + 5 → μ' c = μ c) : vw μ' b = vw μ b := vw_eq (fun o i' h' => by rw [h _ (by unfold zrel at h'; omega)])
/-- only the course of the desk b has changed; its eight numbers -/
def zCo (μ : zM) (b : Int) (μ' : zM) (p t a l dy en et mg : Int) : Prop := (∀ c, c ≠ b + 5 → μ' c = μ c) ∧ μ' (b + 5) 0 = p ∧ μ' (b + 5) 1 = t ∧ μ' (b + 5) 2 = a ∧ μ' (b + 5) 3 = l ∧ μ' (b + 5) 4 = dy ∧ μ' (b + 5) 5 = en ∧ μ' (b + 5) 6 = et ∧ μ' (b + 5) 7 = mg
theorem vw_far {μ : zM} {b c i z : Int} (h : c < b ∨ b + 26 ≤ c) : vw (zup μ c i z) b = vw μ b := vw_eq (fun o i' h' => zup_n (by unfold zrel at h'; omega))
theorem vw_ch {μ : zM} {b i z : Int} (h : 9 ≤ i) : vw (zup μ b i z) b = vw μ b := vw_eq (fun o i' h' => zup_n (by unfold zrel at h'; omega))
theorem vw_up0 {μ : zM} {b i z : Int} (h : zrel 0 i) : vw (zup μ b i z) b = zup (vw μ b) 0 i z := by
  have := vw_up (μ := μ) (b := b) (z := z) h
  rwa [Int.add_zero] at this
theorem vw_upk {μ : zM} {b o k i z : Int} (h : zrel (o + k) i) : vw (zup μ (b + o + k) i z) b = zup (vw μ b) (o + k) i z := by
  rw [Int.add_assoc]
  exact vw_up h
/-- what the course says of the voyage with cargo c from port p on day t -/
def zVoy (d : zM) (b k c p t : Int) (μ1 : zM) : Prop := μ1 (b + 5) 2 = sArr d k c p t ∧ μ1 (b + 5) 3 = sLoad d k c p t ∧ μ1 (b + 5) 4 = sFree d k c p t - t ∧ μ1 (b + 5) 5 = sEarn d k c p t ∧ μ1 (b + 5) 7 = sMarg d k c p t
/-- the course has followed ship k through its first n fixtures -/
def zFo (d : zM) (b k : Int) (n : Nat) (μ μ1 : zM) : Prop := (∀ c, c ≠ b + 5 → μ1 c = μ c) ∧ μ1 (b + 5) 0 = (sPos d k n).1 ∧ μ1 (b + 5) 1 = (sPos d k n).2.1 ∧ μ1 (b + 5) 6 = (sPos d k n).2.2 ∧ ∀ m : Nat, n = m + 1 → zVoy d b k (d (11 + k) (m : Int)) (sPos d k m).1 (sPos d k m).2.1 μ1
/-- ship k can be followed through its first N fixtures -/
def zGo (d : zM) (k : Int) (N : Nat) : Prop := (∀ n : Nat, n < N → 0 ≤ d (11 + k) (n : Int) ∧ d (11 + k) (n : Int) < d 0 5) ∧ ∀ n : Nat, n ≤ N → (0 ≤ (sPos d k n).1 ∧ (sPos d k n).1 ≤ 7) ∧ (0 ≤ (sPos d k n).2.1 ∧ (sPos d k n).2.1 ≤ 2000)
/-- how many fixtures ship k has -/
def sNum (d : zM) (k : Int) : Nat := (d (6 + k) 6).toNat
/-- where ship k is free behind all its fixtures, from which day on, and what it earns -/
def sEnd (d : zM) (k : Int) : Int × Int × Int := sPos d k (sNum d k)
def sCould (d : zM) (k c : Int) : Int := if d (6 + k) 0 < d (16 + c) 0 then 1 else if sMarg d k c (sEnd d k).1 (sEnd d k).2.1 < 0 then 2 else 0
theorem zFo_s {d : zM} {b k : Int} {n : Nat} {μ μ1 μ2 : zM} (hI : zFo d b k n μ μ1) (h : zCo μ1 b μ2 (d (16 + d (11 + k) (n : Int)) 2) (sFree d k (d (11 + k) (n : Int)) (sPos d k n).1 (sPos d k n).2.1) (sArr d k (d (11 + k) (n : Int)) (sPos d k n).1 (sPos d k n).2.1) (sLoad d k (d (11 + k) (n : Int)) (sPos d k n).1 (sPos d k n).2.1) (sFree d k (d (11 + k) (n : Int)) (sPos d k n).1 (sPos d k n).2.1 - (sPos d k n).2.1) (sEarn d k (d (11 + k) (n : Int)) (sPos d k n).1 (sPos d k n).2.1) ((sPos d k n).2.2 + sEarn d k (d (11 + k) (n : Int)) (sPos d k n).1 (sPos d k n).2.1) (sMarg d k (d (11 + k) (n : Int)) (sPos d k n).1 (sPos d k n).2.1)) : zFo d b k (n + 1) μ μ2 := by
  obtain ⟨h0, h1, h2, h3, h4, h5, h6, h7, h8⟩ := h
  refine ⟨fun c hc => (h0 c hc).trans (hI.1 c hc), h1, h2, h7, fun m hm => ?_⟩
  have e : m = n := by omega
  subst e
  exact ⟨h3, h4, h5, h6, h8⟩
theorem sNum_e {d : zM} {k : Int} (h : 0 ≤ d (6 + k) 6) : ((sNum d k : Nat) : Int) = d (6 + k) 6 := Int.toNat_of_nonneg h
/-- how many of the first cargoes are in a state -/
def sCnt (d : zM) (st : Int) : Nat → Int
  | 0 => 0
  | n + 1 => sCnt d st n + (if d (16 + (n : Int)) 6 = st then 1 else 0)
theorem sCnt_b (d : zM) (st : Int) (n : Nat) : 0 ≤ sCnt d st n ∧ sCnt d st n ≤ (n : Int) := by
  induction n with
  | zero => exact ⟨Int.le_refl _, Int.le_refl _⟩
  | succ n ih =>
    unfold sCnt
    split <;> omega
/-- the accounts of the first ships together -/
def sAcc (d : zM) : Nat → Int
  | 0 => 0
  | n + 1 => sAcc d n + d (6 + (n : Int)) 5
/-- the first of the r fixtures from n on that is too late; n + r if none is -/
def sTime (d : zM) (k : Int) : Nat → Nat → Nat
  | 0, n => n
  | r + 1, n => if sMarg d k (d (11 + k) (n : Int)) (sPos d k n).1 (sPos d k n).2.1 < 0 then n else sTime d k r (n + 1)
def sInT (d : zM) (k : Int) : Nat := sTime d k (sNum d k) 0
theorem sTime_b (d : zM) (k : Int) : ∀ r n, n ≤ sTime d k r n ∧ sTime d k r n ≤ n + r := by
  intro r
  induction r with
  | zero => intro n; exact ⟨Nat.le_refl _, Nat.le_refl _⟩
  | succ r ih =>
    intro n
    unfold sTime
    have := ih (n + 1)
    split <;> omega
theorem sArr_b {d : zM} {k c p t : Int} (hP : bP d) (hs : 1 ≤ d (6 + k) 1 ∧ d (6 + k) 1 ≤ 20) (hc : bC d c) (hp : 0 ≤ p ∧ p ≤ 7) : t ≤ sArr d k c p t ∧ sArr d k c p t ≤ t + 83 := by
  have := sSail_b hP hp hc.2.1 hs
  unfold sArr
  omega
theorem sLoad_b {d : zM} {k c p t : Int} (hP : bP d) (hs : 1 ≤ d (6 + k) 1 ∧ d (6 + k) 1 ≤ 20) (hc : bC d c) (hp : 0 ≤ p ∧ p ≤ 7) : sArr d k c p t ≤ sLoad d k c p t ∧ (sLoad d k c p t ≤ 999 ∨ sLoad d k c p t = sArr d k c p t) := by
  have := sArr_b (t := t) hP hs hc hp
  have h4 := hc.2.2.2.1
  unfold sLoad
  split <;> omega
theorem sFree_b {d : zM} {k c p t : Int} (hP : bP d) (hs : 1 ≤ d (6 + k) 1 ∧ d (6 + k) 1 ≤ 20) (hc : bC d c) (hp : 0 ≤ p ∧ p ≤ 7) : sLoad d k c p t + 4 ≤ sFree d k c p t ∧ sFree d k c p t ≤ sLoad d k c p t + 87 := by
  have := sSail_b hP hc.2.1 hc.2.2.1 hs
  unfold sFree
  omega
/-- a position behind fixtures that are in time -/
theorem sPos_b {d : zM} {k : Int} (hB : bD d) (hk : 0 ≤ k ∧ k < d 0 4) : ∀ n : Nat, (∀ m : Nat, m < n → 0 ≤ d (11 + k) (m : Int) ∧ d (11 + k) (m : Int) < d 0 5) → (∀ m : Nat, m < n → 0 ≤ sMarg d k (d (11 + k) (m : Int)) (sPos d k m).1 (sPos d k m).2.1) → (0 ≤ (sPos d k n).1 ∧ (sPos d k n).1 ≤ 7) ∧ (0 ≤ (sPos d k n).2.1 ∧ (sPos d k n).2.1 ≤ 1999) := by
  intro n
  obtain ⟨hN, hP, hS, hC⟩ := hB
  have hs := hS k hk
  induction n with
  | zero => intro _ _; exact ⟨hs.2.2.2.1, hs.2.2.2.2.1⟩
  | succ n ih =>
    intro h1 h2
    have i1 := ih (fun m hm => h1 m (by omega)) (fun m hm => h2 m (by omega))
    have hc := hC _ (h1 n (by omega))
    have h3 := h2 n (by omega)
    have e1 := sArr_b (t := (sPos d k n).2.1) hP hs.2.1 hc i1.1
    have e2 := sLoad_b (t := (sPos d k n).2.1) hP hs.2.1 hc i1.1
    have e3 := sFree_b (t := (sPos d k n).2.1) hP hs.2.1 hc i1.1
    refine ⟨hc.2.2.1, ?_⟩
    show 0 ≤ sFree d k (d (11 + k) (n : Int)) (sPos d k n).1 (sPos d k n).2.1 ∧ _
    have h5 := hc.2.2.2.2.1
    unfold sMarg at h3
    constructor
    · omega
    · show sFree d k (d (11 + k) (n : Int)) (sPos d k n).1 (sPos d k n).2.1 ≤ 1999
      omega
/-- days waited ahead of the n-th fixture -/
def sW (d : zM) (k : Int) : Nat → Int
  | 0 => 0
  | n + 1 => sW d k n + (sLoad d k (d (11 + k) (n : Int)) (sPos d k n).1 (sPos d k n).2.1 - sArr d k (d (11 + k) (n : Int)) (sPos d k n).1 (sPos d k n).2.1)
/-- the least of the first n fixtures' own margins and the waiting ahead of them -/
def sL (d : zM) (k : Int) : Nat → Int
  | 0 => -1000004
  | n + 1 => if n = 0 then sMarg d k (d (11 + k) (n : Int)) (sPos d k n).1 (sPos d k n).2.1 + sW d k n else if sMarg d k (d (11 + k) (n : Int)) (sPos d k n).1 (sPos d k n).2.1 + sW d k n < sL d k n then sMarg d k (d (11 + k) (n : Int)) (sPos d k n).1 (sPos d k n).2.1 + sW d k n else sL d k n
theorem sMarg_b {d : zM} {k c p t : Int} (hP : bP d) (hs : 1 ≤ d (6 + k) 1 ∧ d (6 + k) 1 ≤ 20) (hc : bC d c) (hp : 0 ≤ p ∧ p ≤ 7) (ht : 0 ≤ t ∧ t ≤ 2000) : -2083 ≤ sMarg d k c p t ∧ sMarg d k c p t ≤ 999 := by
  have := sArr_b (t := t) hP hs hc hp
  have h4 := hc.2.2.2.2.1
  unfold sMarg
  omega
theorem sWL_b {d : zM} {k : Int} {N : Nat} (hB : bD d) (hk : 0 ≤ k ∧ k < d 0 4) (hG : zGo d k N) : ∀ n : Nat, n ≤ N → (0 ≤ sW d k n ∧ sW d k n ≤ 1000 * (n : Int)) ∧ (-1000004 ≤ sL d k n ∧ sL d k n ≤ 999 + 1000 * (n : Int)) := by
  obtain ⟨hN, hP, hS, hC⟩ := hB
  have hs := hS k hk
  intro n
  induction n with
  | zero => intro _; exact ⟨⟨Int.le_refl _, by simp [sW]⟩, by simp [sL]⟩
  | succ n ih =>
    intro h
    obtain ⟨i1, i2⟩ := ih (by omega)
    have g1 := hG.1 n (by omega)
    have g2 := hG.2 n (by omega)
    have hc := hC _ g1
    have e1 := sArr_b (t := (sPos d k n).2.1) hP hs.2.1 hc g2.1
    have e2 := sLoad_b (t := (sPos d k n).2.1) hP hs.2.1 hc g2.1
    have e4 := sMarg_b hP hs.2.1 hc g2.1 g2.2
    constructor
    · unfold sW
      omega
    · unfold sL
      split
      · omega
      · split <;> omega
/-- the best of pairs: whether there is one, its ship, its cargo, what it earns -/
abbrev sQ : Type := Int × Int × Int × Int
def sEa (d : zM) (k c : Int) : Int := sEarn d k c (sEnd d k).1 (sEnd d k).2.1
def sStep (d : zM) (k c : Int) (q : sQ) : sQ := if d (16 + c) 6 = 0 ∧ sCould d k c = 0 ∧ (q.1 = 0 ∨ q.2.2.2 < sEa d k c) then (1, k, c, sEa d k c) else q
/-- the n cargoes from c0 on, with ship k -/
def sRow (d : zM) (k c0 : Int) : Nat → sQ → sQ
  | 0, q => q
  | n + 1, q => sStep d k (c0 + (n : Int)) (sRow d k c0 n q)
/-- the n ships from k0 on, each with the m cargoes from c0 on -/
def sAll (d : zM) (k0 c0 : Int) (m : Nat) : Nat → sQ → sQ
  | 0, q => q
  | n + 1, q => sRow d (k0 + (n : Int)) c0 m (sAll d k0 c0 m n q)
/-- only the course and what was chosen have changed -/
def zF2 (μ : zM) (b : Int) (μ' : zM) : Prop := ∀ c i, c ≠ b + 5 → (c ≠ b ∨ i < 9) → μ' c i = μ c i
theorem vw_f2 {μ μ' : zM} {b : Int} (h : zF2 μ b μ') : vw μ' b = vw μ b := vw_eq (fun o i h' => h _ _ (by unfold zrel at h'; omega) (by unfold zrel at h'; omega))
theorem sTime_n {d : zM} {k : Int} {r n : Nat} (h : ¬ sMarg d k (d (11 + k) (n : Int)) (sPos d k n).1 (sPos d k n).2.1 < 0) : sTime d k (r + 1) n = sTime d k r (n + 1) := by
  show (if _ then _ else _) = _
  rw [if_neg h]
theorem sTime_p {d : zM} {k : Int} {r n : Nat} (h : sMarg d k (d (11 + k) (n : Int)) (sPos d k n).1 (sPos d k n).2.1 < 0) : sTime d k (r + 1) n = n := by
  show (if _ then _ else _) = _
  rw [if_pos h]
theorem sL_f {d : zM} {k : Int} {n : Nat} (h : n = 0) : sMarg d k (d (11 + k) (n : Int)) (sPos d k n).1 (sPos d k n).2.1 + sW d k n = sL d k (n + 1) := by
  show _ = (if _ then _ else _)
  rw [if_pos h]
theorem sL_s {d : zM} {k : Int} {n : Nat} (h : ¬ n = 0) : (if sMarg d k (d (11 + k) (n : Int)) (sPos d k n).1 (sPos d k n).2.1 + sW d k n < sL d k n then sMarg d k (d (11 + k) (n : Int)) (sPos d k n).1 (sPos d k n).2.1 + sW d k n else sL d k n) = sL d k (n + 1) := by
  show _ = (if n = 0 then _ else _)
  rw [if_neg h]
theorem sStep_n {d : zM} {k c : Int} {q : sQ} (h : ¬ (d (16 + c) 6 = 0 ∧ sCould d k c = 0 ∧ (q.1 = 0 ∨ q.2.2.2 < sEa d k c))) : sStep d k c q = q := if_neg h
theorem sStep_p {d : zM} {k c : Int} {q : sQ} (h : d (16 + c) 6 = 0 ∧ sCould d k c = 0 ∧ (q.1 = 0 ∨ q.2.2.2 < sEa d k c)) : sStep d k c q = (1, k, c, sEa d k c) := if_pos h
theorem sStep_01 {d : zM} {k c : Int} {q : sQ} (h : q.1 = 0 ∨ q.1 = 1) : (sStep d k c q).1 = 0 ∨ (sStep d k c q).1 = 1 := by
  unfold sStep
  split
  · exact Or.inr rfl
  · exact h
theorem sRow_01 {d : zM} {k c : Int} {q : sQ} (h : q.1 = 0 ∨ q.1 = 1) : ∀ n, (sRow d k c n q).1 = 0 ∨ (sRow d k c n q).1 = 1 := by
  intro n
  induction n with
  | zero => exact h
  | succ n ih => exact sStep_01 ih
theorem sAll_01 {d : zM} {k c : Int} {m : Nat} {q : sQ} (h : q.1 = 0 ∨ q.1 = 1) : ∀ n, (sAll d k c m n q).1 = 0 ∨ (sAll d k c m n q).1 = 1 := by
  intro n
  induction n with
  | zero => exact h
  | succ n ih => exact sRow_01 ih m
theorem zF2_co {μ μ2 μ3 : zM} {b : Int} (h : zF2 μ b μ2) (h2 : ∀ c, c ≠ b + 5 → μ3 c = μ2 c) : zF2 μ b μ3 := fun c i hc hi => by rw [h2 c hc]; exact h c i hc hi
theorem zF2_up {μ μ2 : zM} {b i z : Int} (hi : 9 ≤ i) (h : zF2 μ b μ2) : zF2 μ b (zup μ2 b i z) := fun c j hc hj => by rw [zup_n (by omega)]; exact h c j hc hj
theorem sCould_b (d : zM) (k c : Int) : 0 ≤ sCould d k c ∧ sCould d k c ≤ 2 := by
  unfold sCould
  split
  · omega
  · split <;> omega
theorem sEarn_b {d : zM} {k c p t : Int} (hP : bP d) (hs : bS d k) (hc : bC d c) (hp : 0 ≤ p ∧ p ≤ 7) (ht : 0 ≤ t ∧ t ≤ 2000) : -300000 ≤ sEarn d k c p t ∧ sEarn d k c p t ≤ 9801 := by
  have e1 := sArr_b (t := t) hP hs.2.1 hc hp
  have e2 := sLoad_b (t := t) hP hs.2.1 hc hp
  have e3 := sFree_b (t := t) hP hs.2.1 hc hp
  have h0 := hc.1
  have h5 := hc.2.2.2.2.2.1
  have h2 := hs.2.2.1
  unfold sEarn
  have m1 : d (16 + c) 0 * d (16 + c) 5 ≤ 99 * 99 := Int.mul_le_mul h0.2 h5.2 (by omega) (by omega)
  have m0 : 0 ≤ d (16 + c) 0 * d (16 + c) 5 := Int.mul_nonneg (by omega) (by omega)
  have m2 : (sFree d k c p t - t) * d (6 + k) 2 ≤ 2300 * 99 := Int.mul_le_mul (by omega) h2.2 (by omega) (by omega)
  have m3 : 0 ≤ (sFree d k c p t - t) * d (6 + k) 2 := Int.mul_nonneg (by omega) (by omega)
  omega
theorem sEa_b {d : zM} {k c : Int} (hB : bD d) (hk : 0 ≤ k ∧ k < d 0 4) (hc : 0 ≤ c ∧ c < d 0 5) (hG : zGo d k (sNum d k)) : -300000 ≤ sEa d k c ∧ sEa d k c ≤ 9801 := by
  have hg := hG.2 _ (Nat.le_refl _)
  exact sEarn_b hB.2.1 (hB.2.2.1 k hk) (hB.2.2.2 c hc) hg.1 hg.2
/-- what is chosen stays in the range of what is earned -/
theorem sRow_b {d : zM} {k c : Int} {q : sQ} (hB : bD d) (hk : 0 ≤ k ∧ k < d 0 4) (hc : 0 ≤ c) (hG : zGo d k (sNum d k)) (hq : -300000 ≤ q.2.2.2 ∧ q.2.2.2 ≤ 9801 ∨ q.1 = 0) : ∀ n : Nat, c + (n : Int) ≤ d 0 5 → (-300000 ≤ (sRow d k c n q).2.2.2 ∧ (sRow d k c n q).2.2.2 ≤ 9801 ∨ (sRow d k c n q).1 = 0) := by
  intro n
  induction n with
  | zero => intro _; exact hq
  | succ n ih =>
    intro h
    have i1 := ih (by omega)
    show (-300000 ≤ (sStep d k (c + (n : Int)) (sRow d k c n q)).2.2.2 ∧ (sStep d k (c + (n : Int)) (sRow d k c n q)).2.2.2 ≤ 9801 ∨ (sStep d k (c + (n : Int)) (sRow d k c n q)).1 = 0)
    unfold sStep
    split
    · exact Or.inl (sEa_b hB hk (by omega) hG)
    · exact i1
theorem sAll_b {d : zM} {k c : Int} {m : Nat} {q : sQ} (hB : bD d) (hk : 0 ≤ k) (hc : 0 ≤ c) (hm : c + (m : Int) ≤ d 0 5) (hG : ∀ k, 0 ≤ k ∧ k < d 0 4 → zGo d k (sNum d k)) (hq : -300000 ≤ q.2.2.2 ∧ q.2.2.2 ≤ 9801 ∨ q.1 = 0) : ∀ n : Nat, k + (n : Int) ≤ d 0 4 → (-300000 ≤ (sAll d k c m n q).2.2.2 ∧ (sAll d k c m n q).2.2.2 ≤ 9801 ∨ (sAll d k c m n q).1 = 0) := by
  intro n
  induction n with
  | zero => intro _; exact hq
  | succ n ih =>
    intro h
    exact sRow_b hB (by omega) hc (hG _ (by omega)) (ih (by omega)) m hm
/-- the open cargoes of the first ones, as bits -/
def sOpen (d : zM) : Nat → Int32
  | 0 => iZ 0
  | n + 1 => if d (16 + (n : Int)) 6 = 0 then sOpen d n ||| (iZ 1 <<< (iZ (n : Int) &&& 31)) else sOpen d n
/-- a cargo's pair of ports as a bit -/
def sPair (d : zM) (c : Int) : Int64 := (1 : Int64) <<< ((iZ (8 * d (16 + c) 1 + d (16 + c) 2)).toInt64 &&& 63)
end
section
set_option maxHeartbeats 4000000 in
set_option maxRecDepth 100000 in
/-- isIn(v, lo, hi) -/
theorem m_X7_isIn (l : Launch) (ω : zO) (A : Nat → Prop) (μ : zM) (v lo hi : Int) (hv : -2147483648 ≤ v ∧ v ≤ 2147483647) (hlo : -2147483648 ≤ lo ∧ lo ≤ 2147483647) (hhi : -2147483648 ≤ hi ∧ hi ≤ 2147483647) : zMet l (ω) A yX7_isIn cX7_isIn 3 (some .boolean) 0 0 [.int (iZ v), .int (iZ lo), .int (iZ hi)] μ (zpI (.int (iZ (zB (lo ≤ v ∧ v ≤ hi)))) (fun m => m = μ)) := by
  refine zMet_of (by decide) (Nat.le_of_ble_eq_true rfl) (fun Γ hC => ?_)
  show Z Γ _ μ 0 [(0, .int (iZ v)), (1, .int (iZ lo)), (2, .int (iZ hi))] []
  refine z_iload_n hC dX7_isIn_0 rfl ?_
  refine z_iload_n hC dX7_isIn_1 rfl ?_
  refine z_icmp_lt hC 14 dX7_isIn_2 (by decide) (by omega) (by omega) (fun c_1 => ?_) (fun c_1 => ?_)
  · refine z_iconst hC dX7_isIn_14 ?_
    exact z_zret0 hC dX7_isIn_15 ⟨by rw [zB_f (by omega)], rfl⟩
  · refine z_iload_n hC dX7_isIn_5 rfl ?_
    refine z_iload_n hC dX7_isIn_6 rfl ?_
    refine z_icmp_gt hC 14 dX7_isIn_7 (by decide) (by omega) (by omega) (fun c_2 => ?_) (fun c_2 => ?_)
    · refine z_iconst hC dX7_isIn_14 ?_
      exact z_zret0 hC dX7_isIn_15 ⟨by rw [zB_f (by omega)], rfl⟩
    · refine z_iconst hC dX7_isIn_10 ?_
      refine z_goto hC 15 dX7_isIn_11 (by decide) ?_
      exact z_zret1 hC dX7_isIn_15 ⟨by rw [zB_t (by omega)], rfl⟩

set_option maxHeartbeats 4000000 in
set_option maxRecDepth 100000 in
/-- isPort(v) -/
theorem m_X7_isPort (l : Launch) (ω : zO) (A : Nat → Prop) (μ : zM) (v : Int) (hv : -2147483648 ≤ v ∧ v ≤ 2147483647) : zMet l (ω) A yX7_isPort cX7_isPort 1 (some .boolean) 1 22 [.int (iZ v)] μ (zpI (.int (iZ (zB (0 ≤ v ∧ v ≤ 7)))) (fun m => m = μ)) := by
  refine zMet_of (by decide) (Nat.le_of_ble_eq_true rfl) (fun Γ hC => ?_)
  show Z Γ _ μ 0 [(0, .int (iZ v))] []
  refine z_iload_n hC dX7_isPort_0 rfl ?_
  refine z_iconst hC dX7_isPort_1 ?_
  refine z_bipush hC dX7_isPort_2 (by decide) ?_
  refine z_callS hC [.int (iZ v), .int (iZ 0), .int (iZ 7)] 3 rfl dX7_isPort_4 (fun l => m_X7_isIn l _ _ _ v 0 7 (by omega) (by omega) (by omega)) qM_X7_156 qT_X7_isIn qi_X7 qC_X7_isIn (by decide +kernel) (by decide) (by decide) (Nat.le_of_ble_eq_true rfl) (zk_pure ?_) rfl
  exact z_zret hC dX7_isPort_7 ⟨rfl, rfl⟩

set_option maxHeartbeats 4000000 in
set_option maxRecDepth 100000 in
/-- isError(v) -/
theorem m_X7_isError (l : Launch) (ω : zO) (A : Nat → Prop) (μ : zM) (v : Int) (hv : -2147483648 ≤ v ∧ v ≤ 2147483647) : zMet l (ω) A yX7_isError cX7_isError 1 (some .boolean) 1 22 [.int (iZ v)] μ (zpI (.int (iZ (zB (-1000004 ≤ v ∧ v ≤ -1000001)))) (fun m => m = μ)) := by
  refine zMet_of (by decide) (Nat.le_of_ble_eq_true rfl) (fun Γ hC => ?_)
  show Z Γ _ μ 0 [(0, .int (iZ v))] []
  refine z_iload_n hC dX7_isError_0 rfl ?_
  refine z_ldc hC (-1000004) qc_X7_155 rfl dX7_isError_1 ?_
  refine z_ldc hC (-1000001) qc_X7_77 rfl dX7_isError_3 ?_
  refine z_callS hC [.int (iZ v), .int (iZ (-1000004)), .int (iZ (-1000001))] 3 rfl dX7_isError_5 (fun l => m_X7_isIn l _ _ _ v (-1000004) (-1000001) (by omega) (by omega) (by omega)) qM_X7_156 qT_X7_isIn qi_X7 qC_X7_isIn (by decide +kernel) (by decide) (by decide) (Nat.le_of_ble_eq_true rfl) (zk_pure ?_) rfl
  exact z_zret hC dX7_isError_8 ⟨rfl, rfl⟩

set_option maxHeartbeats 4000000 in
set_option maxRecDepth 100000 in
/-- divideUp(v, u) -/
theorem m_X7_divideUp (l : Launch) (ω : zO) (A : Nat → Prop) (μ : zM) (v u : Int) (hv : 0 ≤ v ∧ v ≤ 1000000) (hu : 1 ≤ u ∧ u ≤ 1000000) : zMet l (ω) A yX7_divideUp cX7_divideUp 2 (some .int) 0 0 [.int (iZ v), .int (iZ u)] μ (zpI (.int (iZ ((v + u - 1) / u))) (fun m => m = μ)) := by
  refine zMet_of (by decide) (Nat.le_of_ble_eq_true rfl) (fun Γ hC => ?_)
  show Z Γ _ μ 0 [(0, .int (iZ v)), (1, .int (iZ u))] []
  refine z_iload_n hC dX7_divideUp_0 rfl ?_
  refine z_iconst hC dX7_divideUp_1 ?_
  refine z_icmp_ge hC 9 dX7_divideUp_2 (by decide) (by omega) (by omega) (fun c_1 => ?_) (fun c_1 => ?_)
  · refine z_iload_n hC dX7_divideUp_9 rfl ?_
    refine z_iload_n hC dX7_divideUp_10 rfl ?_
    refine z_iadd hC dX7_divideUp_11 ?_
    refine z_iconst hC dX7_divideUp_12 ?_
    refine z_isub hC dX7_divideUp_13 ?_
    refine z_iload_n hC dX7_divideUp_14 rfl ?_
    refine z_idiv hC dX7_divideUp_15 (by omega) (by omega) ?_
    exact z_iret hC dX7_divideUp_16 ⟨rfl, rfl⟩
  · exfalso; omega

set_option maxHeartbeats 4000000 in
set_option maxRecDepth 100000 in
/-- Desk.isShip(v) -/
theorem m_X2_isShip (l : Launch) (G : va_G) (ca : Nat → ClassId) (ad : Int → Nat) (A : Nat → Prop) (μ : zM) (b : Int) (hb : zb b) (v : Int) (hv : -2147483648 ≤ v ∧ v ≤ 2147483647) (hS : 0 ≤ μ b 4 ∧ μ b 4 ≤ 10) : zMet l (cω G ca ad) A yX2_isShip cX2_isShip 2 (some .boolean) 0 0 [.ref (ad b), .int (iZ v)] μ (zpI (.int (iZ (zB (0 ≤ v ∧ v < μ b 4)))) (fun m => m = μ)) := by
  refine zMet_of (by decide) (Nat.le_of_ble_eq_true rfl) (fun Γ hC => ?_)
  show Z Γ _ μ 0 [(0, .ref (ad b)), (1, .int (iZ v))] []
  refine z_iload_n hC dX2_isShip_0 rfl ?_
  refine z_if_lt hC 16 dX2_isShip_1 (by decide) (by omega) (fun c_1 => ?_) (fun c_1 => ?_)
  · refine z_iconst hC dX2_isShip_16 ?_
    exact z_zret0 hC dX2_isShip_17 ⟨by rw [zB_f (by omega)], rfl⟩
  · refine z_iload_n hC dX2_isShip_4 rfl ?_
    refine z_aload_n hC dX2_isShip_5 rfl ?_
    refine z_get hC iA_X2 rfl 4 (by decide) qF_X2_52 rfl dX2_isShip_6 (cl_desk hb) (cd_desk hb) rfl ?_
    refine z_icmp_ge hC 16 dX2_isShip_9 (by decide) (by omega) (by omega) (fun c_2 => ?_) (fun c_2 => ?_)
    · refine z_iconst hC dX2_isShip_16 ?_
      exact z_zret0 hC dX2_isShip_17 ⟨by rw [zB_f (by omega)], rfl⟩
    · refine z_iconst hC dX2_isShip_12 ?_
      refine z_goto hC 17 dX2_isShip_13 (by decide) ?_
      exact z_zret1 hC dX2_isShip_17 ⟨by rw [zB_t (by omega)], rfl⟩

set_option maxHeartbeats 4000000 in
set_option maxRecDepth 100000 in
/-- Desk.isCargo(v) -/
theorem m_X2_isCargo (l : Launch) (G : va_G) (ca : Nat → ClassId) (ad : Int → Nat) (A : Nat → Prop) (μ : zM) (b : Int) (hb : zb b) (v : Int) (hv : -2147483648 ≤ v ∧ v ≤ 2147483647) (hS : 0 ≤ μ b 5 ∧ μ b 5 ≤ 10) : zMet l (cω G ca ad) A yX2_isCargo cX2_isCargo 2 (some .boolean) 0 0 [.ref (ad b), .int (iZ v)] μ (zpI (.int (iZ (zB (0 ≤ v ∧ v < μ b 5)))) (fun m => m = μ)) := by
  refine zMet_of (by decide) (Nat.le_of_ble_eq_true rfl) (fun Γ hC => ?_)
  show Z Γ _ μ 0 [(0, .ref (ad b)), (1, .int (iZ v))] []
  refine z_iload_n hC dX2_isCargo_0 rfl ?_
  refine z_if_lt hC 16 dX2_isCargo_1 (by decide) (by omega) (fun c_1 => ?_) (fun c_1 => ?_)
  · refine z_iconst hC dX2_isCargo_16 ?_
    exact z_zret0 hC dX2_isCargo_17 ⟨by rw [zB_f (by omega)], rfl⟩
  · refine z_iload_n hC dX2_isCargo_4 rfl ?_
    refine z_aload_n hC dX2_isCargo_5 rfl ?_
    refine z_get hC iA_X2 rfl 5 (by decide) qF_X2_56 rfl dX2_isCargo_6 (cl_desk hb) (cd_desk hb) rfl ?_
    refine z_icmp_ge hC 16 dX2_isCargo_9 (by decide) (by omega) (by omega) (fun c_2 => ?_) (fun c_2 => ?_)
    · refine z_iconst hC dX2_isCargo_16 ?_
      exact z_zret0 hC dX2_isCargo_17 ⟨by rw [zB_f (by omega)], rfl⟩
    · refine z_iconst hC dX2_isCargo_12 ?_
      refine z_goto hC 17 dX2_isCargo_13 (by decide) ?_
      exact z_zret1 hC dX2_isCargo_17 ⟨by rw [zB_t (by omega)], rfl⟩

set_option maxHeartbeats 4000000 in
set_option maxRecDepth 100000 in
/-- Cargo.worth() -/
theorem m_X0_worth (l : Launch) (G : va_G) (ca : Nat → ClassId) (ad : Int → Nat) (A : Nat → Prop) (μ : zM) (b : Int) (hb : zb b) (k : Int) (hk : 0 ≤ k ∧ k < 10) : zMet l (cω G ca ad) A yX0_worth cX0_worth 1 (some .int) 0 0 [.ref (ad (b + 16 + k))] μ (zpI (.int (iZ (μ (b + 16 + k) 0 * μ (b + 16 + k) 5))) (fun m => m = μ)) := by
  refine zMet_of (by decide) (Nat.le_of_ble_eq_true rfl) (fun Γ hC => ?_)
  show Z Γ _ μ 0 [(0, .ref (ad (b + 16 + k)))] []
  refine z_aload_n hC dX0_worth_0 rfl ?_
  refine z_get hC iA_X0 rfl 0 (by decide) qF_X0_7 rfl dX0_worth_1 (cl_cargo hb (by omega)) (cd_cargo hb (by omega)) rfl ?_
  refine z_aload_n hC dX0_worth_4 rfl ?_
  refine z_get hC iA_X0 rfl 5 (by decide) qF_X0_25 rfl dX0_worth_5 (cl_cargo hb (by omega)) (cd_cargo hb (by omega)) rfl ?_
  refine z_imul hC dX0_worth_8 ?_
  exact z_iret hC dX0_worth_9 ⟨rfl, rfl⟩
end
section
set_option maxHeartbeats 4000000 in
set_option maxRecDepth 100000 in
/-- between(p, q) -/
theorem m_X2_between (l : Launch) (G : va_G) (ca : Nat → ClassId) (ad : Int → Nat) (A : Nat → Prop) (μ : zM) (b : Int) (hb : zb b) (d : zM) (hd : vw μ b = d) (p q : Int) (hP : bP d) (hp : 0 ≤ p ∧ p ≤ 7) (hq : 0 ≤ q ∧ q ≤ 7) : zMet l (cω G ca ad) A yX2_between cX2_between 5 (some .int) 0 0 [.ref (ad b), .int (iZ p), .int (iZ q)] μ (zpI (.int (iZ (sFar d p q))) (fun m => m = μ)) := by
  refine zMet_of (by decide) (Nat.le_of_ble_eq_true rfl) (fun Γ hC => ?_)
  show Z Γ _ μ 0 [(0, .ref (ad b)), (1, .int (iZ p)), (2, .int (iZ q))] []
  have h1 := hP p hp
  have h2 := hP q hq
  refine z_aload_n hC dX2_between_0 rfl ?_
  refine z_get hC iA_X2 rfl 0 (by decide) qF_X2_9 rfl dX2_between_1 (cl_desk hb) (cd_desk hb) rfl ?_
  refine z_iload_n hC dX2_between_4 rfl ?_
  refine z_iald hC dX2_between_5 (cl_x hb) (cd_x hb) (by omega) (by omega) (by decide) ?_
  refine z_top (b := d 1 p) ((vw_x (by omega)).symm.trans (congrFun (congrFun hd _) _)) ?_
  refine z_aload_n hC dX2_between_6 rfl ?_
  refine z_get hC iA_X2 rfl 0 (by decide) qF_X2_9 rfl dX2_between_7 (cl_desk hb) (cd_desk hb) rfl ?_
  refine z_iload_n hC dX2_between_10 rfl ?_
  refine z_iald hC dX2_between_11 (cl_x hb) (cd_x hb) (by omega) (by omega) (by decide) ?_
  refine z_top (b := d 1 q) ((vw_x (by omega)).symm.trans (congrFun (congrFun hd _) _)) ?_
  refine z_isub hC dX2_between_12 ?_
  refine z_istore_n hC dX2_between_13 (by decide) rfl ?_
  refine z_aload_n hC dX2_between_14 rfl ?_
  refine z_get hC iA_X2 rfl 1 (by decide) qF_X2_15 rfl dX2_between_15 (cl_desk hb) (cd_desk hb) rfl ?_
  refine z_iload_n hC dX2_between_18 rfl ?_
  refine z_iald hC dX2_between_19 (cl_y hb) (cd_y hb) (by omega) (by omega) (by decide) ?_
  refine z_top (b := d 2 p) ((vw_y (by omega)).symm.trans (congrFun (congrFun hd _) _)) ?_
  refine z_aload_n hC dX2_between_20 rfl ?_
  refine z_get hC iA_X2 rfl 1 (by decide) qF_X2_15 rfl dX2_between_21 (cl_desk hb) (cd_desk hb) rfl ?_
  refine z_iload_n hC dX2_between_24 rfl ?_
  refine z_iald hC dX2_between_25 (cl_y hb) (cd_y hb) (by omega) (by omega) (by decide) ?_
  refine z_top (b := d 2 q) ((vw_y (by omega)).symm.trans (congrFun (congrFun hd _) _)) ?_
  refine z_isub hC dX2_between_26 ?_
  refine z_istore hC dX2_between_27 (by decide) rfl ?_
  refine z_bipush hC dX2_between_29 (by decide) ?_
  refine z_iload_n hC dX2_between_31 rfl ?_
  refine z_if_ge hC 40 dX2_between_32 (by decide) (by omega) (fun c_1 => ?_) (fun c_1 => ?_)
  · refine z_iload_n hC dX2_between_40 rfl ?_
    refine z_iload hC dX2_between_41 rfl ?_
    refine z_if_ge hC 52 dX2_between_43 (by decide) (by omega) (fun c_2 => ?_) (fun c_2 => ?_)
    · refine z_iload hC dX2_between_52 rfl ?_
      refine z_iadd hC dX2_between_54 ?_
      refine z_imul hC dX2_between_55 ?_
      exact z_iret hC dX2_between_56 ⟨by unfold sFar zabs; split <;> split <;> first | rfl | (exfalso; omega), rfl⟩
    · refine z_iload hC dX2_between_46 rfl ?_
      refine z_ineg hC dX2_between_48 ?_
      refine z_goto hC 54 dX2_between_49 (by decide) ?_
      refine z_iadd hC dX2_between_54 ?_
      refine z_imul hC dX2_between_55 ?_
      exact z_iret hC dX2_between_56 ⟨by unfold sFar zabs; split <;> split <;> first | rfl | (exfalso; omega), rfl⟩
  · refine z_iload_n hC dX2_between_35 rfl ?_
    refine z_ineg hC dX2_between_36 ?_
    refine z_goto hC 41 dX2_between_37 (by decide) ?_
    refine z_iload hC dX2_between_41 rfl ?_
    refine z_if_ge hC 52 dX2_between_43 (by decide) (by omega) (fun c_3 => ?_) (fun c_3 => ?_)
    · refine z_iload hC dX2_between_52 rfl ?_
      refine z_iadd hC dX2_between_54 ?_
      refine z_imul hC dX2_between_55 ?_
      exact z_iret hC dX2_between_56 ⟨by unfold sFar zabs; split <;> split <;> first | rfl | (exfalso; omega), rfl⟩
    · refine z_iload hC dX2_between_46 rfl ?_
      refine z_ineg hC dX2_between_48 ?_
      refine z_goto hC 54 dX2_between_49 (by decide) ?_
      refine z_iadd hC dX2_between_54 ?_
      refine z_imul hC dX2_between_55 ?_
      exact z_iret hC dX2_between_56 ⟨by unfold sFar zabs; split <;> split <;> first | rfl | (exfalso; omega), rfl⟩

set_option maxHeartbeats 4000000 in
set_option maxRecDepth 100000 in
/-- Course.begin(ship) -/
theorem m_X1_begin (l : Launch) (G : va_G) (ca : Nat → ClassId) (ad : Int → Nat) (A : Nat → Prop) (μ : zM) (b : Int) (hb : zb b) (d : zM) (hd : vw μ b = d) (k : Int) (hk : 0 ≤ k ∧ k < 5) : zMet l (cω G ca ad) A yX1_begin cX1_begin 2 none 0 0 [.ref (ad (b + 5)), .ref (ad (b + 6 + k))] μ (zpV (fun μ' => (∀ c, c ≠ b + 5 → μ' c = μ c) ∧ μ' (b + 5) 0 = d (6 + k) 3 ∧ μ' (b + 5) 1 = d (6 + k) 4 ∧ μ' (b + 5) 6 = 0)) := by
  refine zMet_of (by decide) (Nat.le_of_ble_eq_true rfl) (fun Γ hC => ?_)
  show Z Γ _ μ 0 [(0, .ref (ad (b + 5))), (1, .ref (ad (b + 6 + k)))] []
  refine z_aload_n hC dX1_begin_0 rfl ?_
  refine z_aload_n hC dX1_begin_1 rfl ?_
  refine z_get hC iA_X6 rfl 3 (by decide) qF_X1_7 rfl dX1_begin_2 (cl_ship hb (by omega)) (cd_ship hb (by omega)) rfl ?_
  refine z_top (b := d (6 + k) 3) ((vw_ship (by omega) (by omega)).symm.trans (congrFun (congrFun hd _) _)) ?_
  refine z_put hC iA_X1 rfl tyX1 tyX1_ok nmX1 0 (by decide) rfl rfl 0 rfl qF_X1_13 rfl dX1_begin_5 (cl_course hb) (cd_course hb) (fun _ => rfl) (fun _ => Nat.le_of_ble_eq_true rfl) ?_
  refine z_nm (fun μ1 hμ1 => ?_)
  have hd2 : vw μ1 b = d := by rw [hμ1, vw_c5]; exact hd
  refine z_aload_n hC dX1_begin_8 rfl ?_
  refine z_aload_n hC dX1_begin_9 rfl ?_
  refine z_get hC iA_X6 rfl 4 (by decide) qF_X1_18 rfl dX1_begin_10 (cl_ship hb (by omega)) (cd_ship hb (by omega)) rfl ?_
  refine z_top (b := d (6 + k) 4) ((vw_ship (by omega) (by omega)).symm.trans (congrFun (congrFun hd2 _) _)) ?_
  refine z_put hC iA_X1 rfl tyX1 tyX1_ok nmX1 1 (by decide) rfl rfl 1 rfl qF_X1_21 rfl dX1_begin_13 (cl_course hb) (cd_course hb) (fun _ => rfl) (fun _ => Nat.le_of_ble_eq_true rfl) ?_
  refine z_nm (fun μ3 hμ3 => ?_)
  have hd4 : vw μ3 b = d := by rw [hμ3, vw_c5]; exact hd2
  refine z_aload_n hC dX1_begin_16 rfl ?_
  refine z_iconst hC dX1_begin_17 ?_
  refine z_put hC iA_X1 rfl tyX1 tyX1_ok nmX1 6 (by decide) rfl rfl 6 rfl qF_X1_24 rfl dX1_begin_18 (cl_course hb) (cd_course hb) (fun _ => rfl) (fun _ => Nat.le_of_ble_eq_true rfl) ?_
  refine z_nm (fun μ5 hμ5 => ?_)
  have hd6 : vw μ5 b = d := by rw [hμ5, vw_c5]; exact hd4
  exact z_vret hC dX1_begin_21 ⟨rfl, fun c hc => by rw [hμ5, zup_o hc, hμ3, zup_o hc, hμ1, zup_o hc], by rw [hμ5, zup_n (by omega), hμ3, zup_n (by omega), hμ1, zup_s], by rw [hμ5, zup_n (by omega), hμ3, zup_s], by rw [hμ5, zup_s]⟩

set_option maxHeartbeats 4000000 in
set_option maxRecDepth 100000 in
/-- sail(ship k, cargo c) from port p on day t -/
theorem m_X2_sail (l : Launch) (G : va_G) (ca : Nat → ClassId) (ad : Int → Nat) (A : Nat → Prop) (μ : zM) (b : Int) (hb : zb b) (d : zM) (hd : vw μ b = d) (k c p t e : Int) (hN : bN d) (hP : bP d) (hk : 0 ≤ k ∧ k < 5) (hs : bS d k) (hc : 0 ≤ c ∧ c < d 0 5) (hcc : bC d c) (hp : 0 ≤ p ∧ p ≤ 7) (ht : 0 ≤ t ∧ t ≤ 2000) (h0 : μ (b + 5) 0 = p) (h1 : μ (b + 5) 1 = t) (h6 : μ (b + 5) 6 = e) : zMet l (cω G ca ad) A yX2_sail cX2_sail 7 none 1 40 [.ref (ad b), .ref (ad (b + 6 + k)), .int (iZ c)] μ (zpV (fun μ' => zCo μ b μ' (d (16 + c) 2) (sFree d k c p t) (sArr d k c p t) (sLoad d k c p t) (sFree d k c p t - t) (sEarn d k c p t) (e + sEarn d k c p t) (sMarg d k c p t))) := by
  refine zMet_of (by decide) (Nat.le_of_ble_eq_true rfl) (fun Γ hC => ?_)
  show Z Γ _ μ 0 [(0, .ref (ad b)), (1, .ref (ad (b + 6 + k))), (2, .int (iZ c))] []
  obtain ⟨hN1, hN2⟩ := hN
  obtain ⟨hs0, hs1, hs2, hs3, hs4, hs6⟩ := id hs
  obtain ⟨hc0, hc1, hc2, hc3, hc4, hc5, hc6⟩ := id hcc
  have hf1 := sFar_b hP hp hc1
  have hf2 := sFar_b hP hc1 hc2
  have hq1 := sSail_b hP hp hc1 hs1
  have hq2 := sSail_b hP hc1 hc2 hs1
  have hA : sArr d k c p t = t + sSail d k p (d (16 + c) 1) := rfl
  refine z_aload_n hC dX2_sail_0 rfl ?_
  refine z_iload_n hC dX2_sail_1 rfl ?_
  have hN1 : μ b 5 = d 0 5 := by rw [← hd, vw_Cn]
  refine z_callV hC [.int (iZ c)] 1 rfl dX2_sail_2 (fun l => m_X2_isCargo l G ca ad _ μ b hb c (by omega) (by omega)) qM_X2_116 qI_X2_isCargo qS_X2_isCargo qi_X2 qC_X2_isCargo (by decide +kernel) (by decide) (by decide) (cl_desk hb) (cd_desk hb) rfl (Nat.le_of_ble_eq_true rfl) (zk_pure ?_) rfl
  rw [hN1]
  refine z_ifb_ne hC 9 dX2_sail_5 (by decide) (fun c_2 => ?_) (fun c_2 => ?_)
  · refine z_aload_n hC dX2_sail_9 rfl ?_
    refine z_get hC iA_X2 rfl 3 (by decide) qF_X2_26 rfl dX2_sail_10 (cl_desk hb) (cd_desk hb) rfl ?_
    refine z_iload_n hC dX2_sail_13 rfl ?_
    refine z_aald hC dX2_sail_14 3 rfl (cl_cargoes hb) (fun _ i => b + 16 + i) (cd_cargoes hb) (by omega) (by omega) (by decide) ?_
    refine z_astore_n hC dX2_sail_15 (by decide) rfl ?_
    refine z_bipush hC dX2_sail_16 (by decide) ?_
    refine z_aload_n hC dX2_sail_18 rfl ?_
    refine z_get hC iA_X6 rfl 1 (by decide) qF_X2_83 rfl dX2_sail_19 (cl_ship hb (by omega)) (cd_ship hb (by omega)) rfl ?_
    refine z_top (b := d (6 + k) 1) ((vw_ship (by omega) (by omega)).symm.trans (congrFun (congrFun hd _) _)) ?_
    refine z_imul hC dX2_sail_22 ?_
    refine z_istore hC dX2_sail_23 (by decide) rfl ?_
    refine z_aload_n hC dX2_sail_25 rfl ?_
    refine z_get hC iA_X2 rfl 8 (by decide) qF_X2_33 rfl dX2_sail_26 (cl_desk hb) (cd_desk hb) rfl ?_
    refine z_get hC iA_X1 rfl 1 (by decide) qF_X2_135 rfl dX2_sail_29 (cl_course hb) (cd_course hb) rfl ?_
    refine z_top (b := t) (by rw [h1]) ?_
    refine z_istore hC dX2_sail_32 (by decide) rfl ?_
    refine z_aload_n hC dX2_sail_34 rfl ?_
    refine z_get hC iA_X2 rfl 8 (by decide) qF_X2_33 rfl dX2_sail_35 (cl_desk hb) (cd_desk hb) rfl ?_
    refine z_iload hC dX2_sail_38 rfl ?_
    refine z_aload_n hC dX2_sail_40 rfl ?_
    refine z_aload_n hC dX2_sail_41 rfl ?_
    refine z_get hC iA_X2 rfl 8 (by decide) qF_X2_33 rfl dX2_sail_42 (cl_desk hb) (cd_desk hb) rfl ?_
    refine z_get hC iA_X1 rfl 0 (by decide) qF_X2_162 rfl dX2_sail_45 (cl_course hb) (cd_course hb) rfl ?_
    refine z_top (b := p) (by rw [h0]) ?_
    refine z_aload_n hC dX2_sail_48 rfl ?_
    refine z_get hC iA_X0 rfl 1 (by decide) qF_X2_98 rfl dX2_sail_49 (cl_cargo hb (by omega)) (cd_cargo hb (by omega)) rfl ?_
    refine z_top (b := d (16 + c) 1) ((vw_cargo (by omega) (by omega)).symm.trans (congrFun (congrFun hd _) _)) ?_
    refine z_callV hC [.int (iZ p), .int (iZ (d (16 + c) 1))] 2 rfl dX2_sail_52 (fun l => m_X2_between l G ca ad _ μ b hb d hd p (d (16 + c) 1) hP (by omega) (by omega)) qM_X2_177 qI_X2_between qS_X2_between qi_X2 qC_X2_between (by decide +kernel) (by decide) (by decide) (cl_desk hb) (cd_desk hb) rfl (Nat.le_of_ble_eq_true rfl) (zk_pure ?_) rfl
    refine z_iload hC dX2_sail_55 rfl ?_
    refine z_callSN hC [.int (iZ (sFar d p (d (16 + c) 1))), .int (iZ (24 * (d (6 + k) 1)))] 2 rfl dX2_sail_57 (fun l => m_X7_divideUp l _ _ _ (sFar d p (d (16 + c) 1)) (24 * (d (6 + k) 1)) (by omega) (by omega)) (by decide +kernel) qT_X7_divideUp qi_X7 qC_X7_divideUp (by decide +kernel) (by decide) (by decide) (Nat.le_of_ble_eq_true rfl) (zk_pure ?_) rfl
    refine z_top (b := sSail d k p (d (16 + c) 1)) rfl ?_
    refine z_iadd hC dX2_sail_60 ?_
    refine z_top (b := sArr d k c p t) rfl ?_
    refine z_put hC iA_X1 rfl tyX1 tyX1_ok nmX1 2 (by decide) rfl rfl 2 rfl qF_X2_180 rfl dX2_sail_61 (cl_course hb) (cd_course hb) (fun _ => rfl) (fun _ => Nat.le_of_ble_eq_true rfl) ?_
    refine z_nm (fun μ3 hμ3 => ?_)
    have hd4 : vw μ3 b = d := by rw [hμ3, vw_c5]; exact hd
    refine z_aload_n hC dX2_sail_64 rfl ?_
    refine z_get hC iA_X2 rfl 8 (by decide) qF_X2_33 rfl dX2_sail_65 (cl_desk hb) (cd_desk hb) rfl ?_
    refine z_aload_n hC dX2_sail_68 rfl ?_
    refine z_get hC iA_X0 rfl 4 (by decide) qF_X2_107 rfl dX2_sail_69 (cl_cargo hb (by omega)) (cd_cargo hb (by omega)) rfl ?_
    refine z_top (b := d (16 + c) 4) ((vw_cargo (by omega) (by omega)).symm.trans (congrFun (congrFun hd4 _) _)) ?_
    refine z_aload_n hC dX2_sail_72 rfl ?_
    refine z_get hC iA_X2 rfl 8 (by decide) qF_X2_33 rfl dX2_sail_73 (cl_desk hb) (cd_desk hb) rfl ?_
    refine z_get hC iA_X1 rfl 2 (by decide) qF_X2_180 rfl dX2_sail_76 (cl_course hb) (cd_course hb) rfl ?_
    refine z_top (by rw [hμ3, zup_s]) ?_
    refine z_isub hC dX2_sail_79 ?_
    refine z_top (b := sMarg d k c p t) rfl ?_
    refine z_put hC iA_X1 rfl tyX1 tyX1_ok nmX1 7 (by decide) rfl rfl 7 rfl qF_X2_183 rfl dX2_sail_80 (cl_course hb) (cd_course hb) (fun _ => rfl) (fun _ => Nat.le_of_ble_eq_true rfl) ?_
    refine z_nm (fun μ5 hμ5 => ?_)
    have hd6 : vw μ5 b = d := by rw [hμ5, vw_c5]; exact hd4
    refine z_aload_n hC dX2_sail_83 rfl ?_
    refine z_get hC iA_X2 rfl 8 (by decide) qF_X2_33 rfl dX2_sail_84 (cl_desk hb) (cd_desk hb) rfl ?_
    refine z_aload_n hC dX2_sail_87 rfl ?_
    refine z_get hC iA_X2 rfl 8 (by decide) qF_X2_33 rfl dX2_sail_88 (cl_desk hb) (cd_desk hb) rfl ?_
    refine z_get hC iA_X1 rfl 2 (by decide) qF_X2_180 rfl dX2_sail_91 (cl_course hb) (cd_course hb) rfl ?_
    refine z_top (by rw [hμ5, zup_n (by omega), hμ3, zup_s]) ?_
    refine z_aload_n hC dX2_sail_94 rfl ?_
    refine z_get hC iA_X0 rfl 3 (by decide) qF_X2_104 rfl dX2_sail_95 (cl_cargo hb (by omega)) (cd_cargo hb (by omega)) rfl ?_
    refine z_top (b := d (16 + c) 3) ((vw_cargo (by omega) (by omega)).symm.trans (congrFun (congrFun hd6 _) _)) ?_
    refine z_max hC qM_X2_186 dX2_sail_98 (by omega) (by omega) (by decide) (Nat.le_of_ble_eq_true rfl) ?_
    refine z_top (b := sLoad d k c p t) rfl ?_
    refine z_put hC iA_X1 rfl tyX1 tyX1_ok nmX1 3 (by decide) rfl rfl 3 rfl qF_X2_191 rfl dX2_sail_101 (cl_course hb) (cd_course hb) (fun _ => rfl) (fun _ => Nat.le_of_ble_eq_true rfl) ?_
    refine z_nm (fun μ7 hμ7 => ?_)
    have hd8 : vw μ7 b = d := by rw [hμ7, vw_c5]; exact hd6
    refine z_aload_n hC dX2_sail_104 rfl ?_
    refine z_get hC iA_X2 rfl 8 (by decide) qF_X2_33 rfl dX2_sail_105 (cl_desk hb) (cd_desk hb) rfl ?_
    refine z_get hC iA_X1 rfl 3 (by decide) qF_X2_191 rfl dX2_sail_108 (cl_course hb) (cd_course hb) rfl ?_
    refine z_top (by rw [hμ7, zup_s]) ?_
    refine z_iconst hC dX2_sail_111 ?_
    refine z_iadd hC dX2_sail_112 ?_
    refine z_istore hC dX2_sail_113 (by decide) rfl ?_
    refine z_aload_n hC dX2_sail_115 rfl ?_
    refine z_get hC iA_X2 rfl 8 (by decide) qF_X2_33 rfl dX2_sail_116 (cl_desk hb) (cd_desk hb) rfl ?_
    refine z_iload hC dX2_sail_119 rfl ?_
    refine z_aload_n hC dX2_sail_121 rfl ?_
    refine z_aload_n hC dX2_sail_122 rfl ?_
    refine z_get hC iA_X0 rfl 1 (by decide) qF_X2_98 rfl dX2_sail_123 (cl_cargo hb (by omega)) (cd_cargo hb (by omega)) rfl ?_
    refine z_top (b := d (16 + c) 1) ((vw_cargo (by omega) (by omega)).symm.trans (congrFun (congrFun hd8 _) _)) ?_
    refine z_aload_n hC dX2_sail_126 rfl ?_
    refine z_get hC iA_X0 rfl 2 (by decide) qF_X2_101 rfl dX2_sail_127 (cl_cargo hb (by omega)) (cd_cargo hb (by omega)) rfl ?_
    refine z_top (b := d (16 + c) 2) ((vw_cargo (by omega) (by omega)).symm.trans (congrFun (congrFun hd8 _) _)) ?_
    refine z_callV hC [.int (iZ (d (16 + c) 1)), .int (iZ (d (16 + c) 2))] 2 rfl dX2_sail_130 (fun l => m_X2_between l G ca ad _ μ7 b hb d hd8 (d (16 + c) 1) (d (16 + c) 2) hP (by omega) (by omega)) qM_X2_177 qI_X2_between qS_X2_between qi_X2 qC_X2_between (by decide +kernel) (by decide) (by decide) (cl_desk hb) (cd_desk hb) rfl (Nat.le_of_ble_eq_true rfl) (zk_pure ?_) rfl
    refine z_iload hC dX2_sail_133 rfl ?_
    refine z_callSN hC [.int (iZ (sFar d (d (16 + c) 1) (d (16 + c) 2))), .int (iZ (24 * (d (6 + k) 1)))] 2 rfl dX2_sail_135 (fun l => m_X7_divideUp l _ _ _ (sFar d (d (16 + c) 1) (d (16 + c) 2)) (24 * (d (6 + k) 1)) (by omega) (by omega)) (by decide +kernel) qT_X7_divideUp qi_X7 qC_X7_divideUp (by decide +kernel) (by decide) (by decide) (Nat.le_of_ble_eq_true rfl) (zk_pure ?_) rfl
    refine z_top (b := sSail d k (d (16 + c) 1) (d (16 + c) 2)) rfl ?_
    refine z_iadd hC dX2_sail_138 ?_
    refine z_iconst hC dX2_sail_139 ?_
    refine z_iadd hC dX2_sail_140 ?_
    refine z_top (b := sFree d k c p t) rfl ?_
    refine z_put hC iA_X1 rfl tyX1 tyX1_ok nmX1 1 (by decide) rfl rfl 1 rfl qF_X2_135 rfl dX2_sail_141 (cl_course hb) (cd_course hb) (fun _ => rfl) (fun _ => Nat.le_of_ble_eq_true rfl) ?_
    refine z_nm (fun μ9 hμ9 => ?_)
    have hd10 : vw μ9 b = d := by rw [hμ9, vw_c5]; exact hd8
    refine z_aload_n hC dX2_sail_144 rfl ?_
    refine z_get hC iA_X2 rfl 8 (by decide) qF_X2_33 rfl dX2_sail_145 (cl_desk hb) (cd_desk hb) rfl ?_
    refine z_aload_n hC dX2_sail_148 rfl ?_
    refine z_get hC iA_X0 rfl 2 (by decide) qF_X2_101 rfl dX2_sail_149 (cl_cargo hb (by omega)) (cd_cargo hb (by omega)) rfl ?_
    refine z_top (b := d (16 + c) 2) ((vw_cargo (by omega) (by omega)).symm.trans (congrFun (congrFun hd10 _) _)) ?_
    refine z_put hC iA_X1 rfl tyX1 tyX1_ok nmX1 0 (by decide) rfl rfl 0 rfl qF_X2_162 rfl dX2_sail_152 (cl_course hb) (cd_course hb) (fun _ => rfl) (fun _ => Nat.le_of_ble_eq_true rfl) ?_
    refine z_nm (fun μ11 hμ11 => ?_)
    have hd12 : vw μ11 b = d := by rw [hμ11, vw_c5]; exact hd10
    refine z_aload_n hC dX2_sail_155 rfl ?_
    refine z_get hC iA_X2 rfl 8 (by decide) qF_X2_33 rfl dX2_sail_156 (cl_desk hb) (cd_desk hb) rfl ?_
    refine z_aload_n hC dX2_sail_159 rfl ?_
    refine z_get hC iA_X2 rfl 8 (by decide) qF_X2_33 rfl dX2_sail_160 (cl_desk hb) (cd_desk hb) rfl ?_
    refine z_get hC iA_X1 rfl 1 (by decide) qF_X2_135 rfl dX2_sail_163 (cl_course hb) (cd_course hb) rfl ?_
    refine z_top (by rw [hμ11, zup_n (by omega), hμ9, zup_s]) ?_
    refine z_iload hC dX2_sail_166 rfl ?_
    refine z_isub hC dX2_sail_168 ?_
    refine z_put hC iA_X1 rfl tyX1 tyX1_ok nmX1 4 (by decide) rfl rfl 4 rfl qF_X2_194 rfl dX2_sail_169 (cl_course hb) (cd_course hb) (fun _ => rfl) (fun _ => Nat.le_of_ble_eq_true rfl) ?_
    refine z_nm (fun μ13 hμ13 => ?_)
    have hd14 : vw μ13 b = d := by rw [hμ13, vw_c5]; exact hd12
    refine z_aload_n hC dX2_sail_172 rfl ?_
    refine z_get hC iA_X2 rfl 8 (by decide) qF_X2_33 rfl dX2_sail_173 (cl_desk hb) (cd_desk hb) rfl ?_
    refine z_aload_n hC dX2_sail_176 rfl ?_
    refine z_callV hC [] 0 rfl dX2_sail_177 (fun l => m_X0_worth l G ca ad _ μ13 b hb c (by omega)) qM_X2_145 qI_X0_worth qS_X0_worth qi_X0 qC_X0_worth (by decide +kernel) (by decide) (by decide) (cl_cargo hb (by omega)) (cd_cargo hb (by omega)) rfl (Nat.le_of_ble_eq_true rfl) (zk_pure ?_) rfl
    refine z_top (b := d (16 + c) 0 * d (16 + c) 5) (congr (congrArg HMul.hMul ((vw_cargo (by omega) (by omega)).symm.trans (congrFun (congrFun hd14 _) _))) ((vw_cargo (by omega) (by omega)).symm.trans (congrFun (congrFun hd14 _) _))) ?_
    refine z_aload_n hC dX2_sail_180 rfl ?_
    refine z_get hC iA_X2 rfl 8 (by decide) qF_X2_33 rfl dX2_sail_181 (cl_desk hb) (cd_desk hb) rfl ?_
    refine z_get hC iA_X1 rfl 4 (by decide) qF_X2_194 rfl dX2_sail_184 (cl_course hb) (cd_course hb) rfl ?_
    refine z_top (by rw [hμ13, zup_s]) ?_
    refine z_aload_n hC dX2_sail_187 rfl ?_
    refine z_get hC iA_X6 rfl 2 (by decide) qF_X2_86 rfl dX2_sail_188 (cl_ship hb (by omega)) (cd_ship hb (by omega)) rfl ?_
    refine z_top (b := d (6 + k) 2) ((vw_ship (by omega) (by omega)).symm.trans (congrFun (congrFun hd14 _) _)) ?_
    refine z_imul hC dX2_sail_191 ?_
    refine z_isub hC dX2_sail_192 ?_
    refine z_top (b := sEarn d k c p t) rfl ?_
    refine z_put hC iA_X1 rfl tyX1 tyX1_ok nmX1 5 (by decide) rfl rfl 5 rfl qF_X2_197 rfl dX2_sail_193 (cl_course hb) (cd_course hb) (fun _ => rfl) (fun _ => Nat.le_of_ble_eq_true rfl) ?_
    refine z_nm (fun μ15 hμ15 => ?_)
    have hd16 : vw μ15 b = d := by rw [hμ15, vw_c5]; exact hd14
    refine z_aload_n hC dX2_sail_196 rfl ?_
    refine z_get hC iA_X2 rfl 8 (by decide) qF_X2_33 rfl dX2_sail_197 (cl_desk hb) (cd_desk hb) rfl ?_
    refine z_dup hC dX2_sail_200 rfl ?_
    refine z_get hC iA_X1 rfl 6 (by decide) qF_X2_159 rfl dX2_sail_201 (cl_course hb) (cd_course hb) rfl ?_
    refine z_top (b := e) (by rw [hμ15, zup_n (by omega), hμ13, zup_n (by omega), hμ11, zup_n (by omega), hμ9, zup_n (by omega), hμ7, zup_n (by omega), hμ5, zup_n (by omega), hμ3, zup_n (by omega), h6]) ?_
    refine z_aload_n hC dX2_sail_204 rfl ?_
    refine z_get hC iA_X2 rfl 8 (by decide) qF_X2_33 rfl dX2_sail_205 (cl_desk hb) (cd_desk hb) rfl ?_
    refine z_get hC iA_X1 rfl 5 (by decide) qF_X2_197 rfl dX2_sail_208 (cl_course hb) (cd_course hb) rfl ?_
    refine z_top (by rw [hμ15, zup_s]) ?_
    refine z_iadd hC dX2_sail_211 ?_
    refine z_put hC iA_X1 rfl tyX1 tyX1_ok nmX1 6 (by decide) rfl rfl 6 rfl qF_X2_159 rfl dX2_sail_212 (cl_course hb) (cd_course hb) (fun _ => rfl) (fun _ => Nat.le_of_ble_eq_true rfl) ?_
    refine z_nm (fun μ17 hμ17 => ?_)
    have hd18 : vw μ17 b = d := by rw [hμ17, vw_c5]; exact hd16
    exact z_vret hC dX2_sail_215 ⟨rfl, fun c9 hc9 => by rw [hμ17, zup_o hc9, hμ15, zup_o hc9, hμ13, zup_o hc9, hμ11, zup_o hc9, hμ9, zup_o hc9, hμ7, zup_o hc9, hμ5, zup_o hc9, hμ3, zup_o hc9], by rw [hμ17, zup_n (by omega), hμ15, zup_n (by omega), hμ13, zup_n (by omega), hμ11, zup_s], by rw [hμ17, zup_n (by omega), hμ15, zup_n (by omega), hμ13, zup_n (by omega), hμ11, zup_n (by omega), hμ9, zup_s], by rw [hμ17, zup_n (by omega), hμ15, zup_n (by omega), hμ13, zup_n (by omega), hμ11, zup_n (by omega), hμ9, zup_n (by omega), hμ7, zup_n (by omega), hμ5, zup_n (by omega), hμ3, zup_s], by rw [hμ17, zup_n (by omega), hμ15, zup_n (by omega), hμ13, zup_n (by omega), hμ11, zup_n (by omega), hμ9, zup_n (by omega), hμ7, zup_s], by rw [hμ17, zup_n (by omega), hμ15, zup_n (by omega), hμ13, zup_s], by rw [hμ17, zup_n (by omega), hμ15, zup_s], by rw [hμ17, zup_s], by rw [hμ17, zup_n (by omega), hμ15, zup_n (by omega), hμ13, zup_n (by omega), hμ11, zup_n (by omega), hμ9, zup_n (by omega), hμ7, zup_n (by omega), hμ5, zup_s]⟩
  · exfalso; omega
end
section
set_option maxHeartbeats 4000000 in
set_option maxRecDepth 100000 in
/-- follow(ship k, f): through the first N of its fixtures -/
theorem m_X2_follow (l : Launch) (G : va_G) (ca : Nat → ClassId) (ad : Int → Nat) (A : Nat → Prop) (μ : zM) (b : Int) (hb : zb b) (d : zM) (hd : vw μ b = d) (k f : Int) (N : Nat) (hB : bD d) (hk : 0 ≤ k ∧ k < d 0 4) (hf : 0 ≤ f ∧ f ≤ 10) (hNf : ((N : Int) = f ∧ f ≤ d (6 + k) 6) ∨ ((N : Int) = d (6 + k) 6 ∧ d (6 + k) 6 ≤ f)) (hG : zGo d k N) : zMet l (cω G ca ad) A yX2_follow cX2_follow 5 (some (.object "ShipFixtures$Course")) 2 66 [.ref (ad b), .int (iZ k), .int (iZ f)] μ (zpI (.ref (ad (b + 5))) (zFo d b k N μ)) := by
  refine zMet_of (by decide) (Nat.le_of_ble_eq_true rfl) (fun Γ hC => ?_)
  show Z Γ _ μ 0 [(0, .ref (ad b)), (1, .int (iZ k)), (2, .int (iZ f))] []
  obtain ⟨hN, hP, hB3, hB4⟩ := id hB
  obtain ⟨hN1, hN2⟩ := id hN
  obtain ⟨hs0, hs1, hs2, hs3, hs4, hs6⟩ := hB3 k (by omega)
  refine z_aload_n hC dX2_follow_0 rfl ?_
  refine z_get hC iA_X2 rfl 2 (by decide) qF_X2_20 rfl dX2_follow_1 (cl_desk hb) (cd_desk hb) rfl ?_
  refine z_iload_n hC dX2_follow_4 rfl ?_
  refine z_aald hC dX2_follow_5 2 rfl (cl_ships hb) (fun _ i => b + 6 + i) (cd_ships hb) (by omega) (by omega) (by decide) ?_
  refine z_astore_n hC dX2_follow_6 (by decide) rfl ?_
  refine z_aload_n hC dX2_follow_7 rfl ?_
  refine z_get hC iA_X2 rfl 8 (by decide) qF_X2_33 rfl dX2_follow_8 (cl_desk hb) (cd_desk hb) rfl ?_
  refine z_aload_n hC dX2_follow_11 rfl ?_
  refine z_callV hC [.ref (ad (b + 6 + k))] 1 rfl dX2_follow_12 (fun l => m_X1_begin l G ca ad _ μ b hb d hd k (by omega)) qM_X2_166 qI_X1_begin qS_X1_begin qi_X1 qC_X1_begin (by decide +kernel) (by decide) (by decide) (cl_course hb) (cd_course hb) rfl (Nat.le_of_ble_eq_true rfl) (zk_void (fun μ1 hμ1 => ?_)) rfl
  obtain ⟨hμ1f, hμ10, hμ11, hμ16⟩ := id hμ1
  have hd2 : vw μ1 b = d := by rw [vw_fr5 hμ1f]; exact hd
  refine z_iconst hC dX2_follow_15 ?_
  refine z_istore hC dX2_follow_16 (by decide) rfl ?_
  have LOOP : ∀ (r n : Nat), n + r = N → ∀ μ1 : zM, zFo d b k n μ μ1 → Z Γ (cω G ca ad) μ1 18 [(4, .int (iZ (n : Int))), (0, .ref (ad b)), (2, .int (iZ f)), (3, .ref (ad (b + 6 + k)))] [] := by
    intro r
    induction r with
    | zero =>
      intro n hn μ1 hI
      obtain ⟨hI0, hI1, hI2, hI3, hI4⟩ := id hI
      have hd1 : vw μ1 b = d := by rw [vw_fr5 hI0]; exact hd
      refine z_iload hC dX2_follow_18 rfl ?_
      refine z_iload_n hC dX2_follow_20 rfl ?_
      refine z_icmp_ge hC 51 dX2_follow_21 (by decide) (by omega) (by omega) (fun c_3 => ?_) (fun c_3 => ?_)
      · refine z_aload_n hC dX2_follow_51 rfl ?_
        refine z_get hC iA_X2 rfl 8 (by decide) qF_X2_33 rfl dX2_follow_52 (cl_desk hb) (cd_desk hb) rfl ?_
        obtain rfl : n = N := by omega
        exact z_aret hC dX2_follow_55 ⟨rfl, hI0, hI1, hI2, hI3, hI4⟩
      · refine z_iload hC dX2_follow_24 rfl ?_
        refine z_aload_n hC dX2_follow_26 rfl ?_
        refine z_get hC iA_X6 rfl 6 (by decide) qF_X2_126 rfl dX2_follow_27 (cl_ship hb (by omega)) (cd_ship hb (by omega)) rfl ?_
        refine z_top (b := d (6 + k) 6) ((vw_ship (by omega) (by omega)).symm.trans (congrFun (congrFun hd1 _) _)) ?_
        refine z_icmp_ge hC 51 dX2_follow_30 (by decide) (by omega) (by omega) (fun c_4 => ?_) (fun c_4 => ?_)
        · refine z_aload_n hC dX2_follow_51 rfl ?_
          refine z_get hC iA_X2 rfl 8 (by decide) qF_X2_33 rfl dX2_follow_52 (cl_desk hb) (cd_desk hb) rfl ?_
          obtain rfl : n = N := by omega
          exact z_aret hC dX2_follow_55 ⟨rfl, hI0, hI1, hI2, hI3, hI4⟩
        · exfalso; omega
    | succ r ih =>
      intro n hn μ1 hI
      obtain ⟨hI0, hI1, hI2, hI3, hI4⟩ := id hI
      have hd1 : vw μ1 b = d := by rw [vw_fr5 hI0]; exact hd
      have hg1 := hG.1 n (by omega)
      have hg2 := hG.2 n (by omega)
      refine z_iload hC dX2_follow_18 rfl ?_
      refine z_iload_n hC dX2_follow_20 rfl ?_
      refine z_icmp_ge hC 51 dX2_follow_21 (by decide) (by omega) (by omega) (fun c_5 => ?_) (fun c_5 => ?_)
      · exfalso; omega
      · refine z_iload hC dX2_follow_24 rfl ?_
        refine z_aload_n hC dX2_follow_26 rfl ?_
        refine z_get hC iA_X6 rfl 6 (by decide) qF_X2_126 rfl dX2_follow_27 (cl_ship hb (by omega)) (cd_ship hb (by omega)) rfl ?_
        refine z_top (b := d (6 + k) 6) ((vw_ship (by omega) (by omega)).symm.trans (congrFun (congrFun hd1 _) _)) ?_
        refine z_icmp_ge hC 51 dX2_follow_30 (by decide) (by omega) (by omega) (fun c_6 => ?_) (fun c_6 => ?_)
        · exfalso; omega
        · refine z_aload_n hC dX2_follow_33 rfl ?_
          refine z_aload_n hC dX2_follow_34 rfl ?_
          refine z_aload_n hC dX2_follow_35 rfl ?_
          refine z_get hC iA_X6 rfl 7 (by decide) qF_X2_129 rfl dX2_follow_36 (cl_ship hb (by omega)) (cd_ship hb (by omega)) rfl ?_
          refine z_iload hC dX2_follow_39 rfl ?_
          refine z_iald hC dX2_follow_41 (cl_fx hb (by omega)) (cd_fx hb (by omega)) (by omega) (by omega) (by decide) ?_
          refine z_top (b := d (11 + k) (n : Int)) ((vw_fx (by omega) (by omega)).symm.trans (congrFun (congrFun hd1 _) _)) ?_
          refine z_callV hC [.ref (ad (b + 6 + k)), .int (iZ (d (11 + k) (n : Int)))] 2 rfl dX2_follow_42 (fun l => m_X2_sail l G ca ad _ μ1 b hb d hd1 k (d (11 + k) (n : Int)) ((sPos d k n).1) ((sPos d k n).2.1) ((sPos d k n).2.2) hN hP (by omega) (hB.2.2.1 k (by omega)) (by omega) (hB.2.2.2 _ (by omega)) (by omega) (by omega) hI1 hI2 hI3) qM_X2_169 qI_X2_sail qS_X2_sail qi_X2 qC_X2_sail (by decide +kernel) (by decide) (by decide) (cl_desk hb) (cd_desk hb) rfl (Nat.le_of_ble_eq_true rfl) (zk_void (fun μ7 hμ7 => ?_)) rfl
          obtain ⟨hμ7f, hμ70, hμ71, hμ72, hμ73, hμ74, hμ75, hμ76, hμ77⟩ := id hμ7
          have hd8 : vw μ7 b = d := by rw [vw_fr5 hμ7f]; exact hd1
          refine z_iinc hC dX2_follow_45 rfl (by decide) rfl ?_
          refine z_goto hC 18 dX2_follow_48 (by decide) ?_
          refine z_weak (L' := [(4, .int (iZ ((n + 1 : Nat) : Int))), (0, .ref (ad b)), (2, .int (iZ f)), (3, .ref (ad (b + 6 + k)))]) ⟨rfl, rfl, rfl, rfl, trivial⟩ ?_
          exact ih (n + 1) (by omega) _ (zFo_s hI hμ7)
  refine z_weak (L' := [(4, .int (iZ ((0 : Nat) : Int))), (0, .ref (ad b)), (2, .int (iZ f)), (3, .ref (ad (b + 6 + k)))]) ⟨rfl, rfl, rfl, rfl, trivial⟩ ?_
  exact LOOP N 0 (by omega) _ ⟨hμ1f, hμ10, hμ11, hμ16, fun m hm => absurd hm (by omega)⟩
end
section
set_option maxHeartbeats 4000000 in
set_option maxRecDepth 100000 in
/-- followAll(ship k) -/
theorem m_X2_followAll (l : Launch) (G : va_G) (ca : Nat → ClassId) (ad : Int → Nat) (A : Nat → Prop) (μ : zM) (b : Int) (hb : zb b) (d : zM) (hd : vw μ b = d) (k : Int) (hB : bD d) (hk : 0 ≤ k ∧ k < d 0 4) (hG : zGo d k (sNum d k)) : zMet l (cω G ca ad) A yX2_followAll cX2_followAll 2 (some (.object "ShipFixtures$Course")) 3 90 [.ref (ad b), .int (iZ k)] μ (zpI (.ref (ad (b + 5))) (zFo d b k (sNum d k) μ)) := by
  refine zMet_of (by decide) (Nat.le_of_ble_eq_true rfl) (fun Γ hC => ?_)
  show Z Γ _ μ 0 [(0, .ref (ad b)), (1, .int (iZ k))] []
  obtain ⟨hN, hP, hB3, hB4⟩ := id hB
  obtain ⟨hN1, hN2⟩ := id hN
  obtain ⟨hs0, hs1, hs2, hs3, hs4, hs6⟩ := hB3 k (by omega)
  refine z_aload_n hC dX2_followAll_0 rfl ?_
  refine z_iload_n hC dX2_followAll_1 rfl ?_
  refine z_bipush hC dX2_followAll_2 (by decide) ?_
  refine z_callV hC [.int (iZ k), .int (iZ 10)] 2 rfl dX2_followAll_4 (fun l => m_X2_follow l G ca ad _ μ b hb d hd k 10 (sNum d k) hB (by omega) (by omega) (Or.inr ⟨sNum_e (by omega), by omega⟩) hG) qM_X2_173 qI_X2_follow qS_X2_follow qi_X2 qC_X2_follow (by decide +kernel) (by decide) (by decide) (cl_desk hb) (cd_desk hb) rfl (Nat.le_of_ble_eq_true rfl) (zk_int (fun μ1 hμ1 => ?_)) rfl
  obtain ⟨hμ1f, hμ10, hμ11, hμ16, hμ1m⟩ := id hμ1
  have hd2 : vw μ1 b = d := by rw [vw_fr5 hμ1f]; exact hd
  exact z_aret hC dX2_followAll_7 ⟨rfl, hμ1⟩

set_option maxHeartbeats 4000000 in
set_option maxRecDepth 100000 in
/-- hindrance(ship k, cargo c) -/
theorem m_X2_hindrance (l : Launch) (G : va_G) (ca : Nat → ClassId) (ad : Int → Nat) (A : Nat → Prop) (μ : zM) (b : Int) (hb : zb b) (d : zM) (hd : vw μ b = d) (k c : Int) (hB : bD d) (hk : 0 ≤ k ∧ k < d 0 4) (hc : 0 ≤ c ∧ c < d 0 5) (hG : zGo d k (sNum d k)) : zMet l (cω G ca ad) A yX2_hindrance cX2_hindrance 3 (some .int) 3 90 [.ref (ad b), .int (iZ k), .int (iZ c)] μ (zpI (.int (iZ (sCould d k c))) (fun μ' => zCo μ b μ' (d (16 + c) 2) (sFree d k c (sEnd d k).1 ((sEnd d k).2.1)) (sArr d k c (sEnd d k).1 ((sEnd d k).2.1)) (sLoad d k c (sEnd d k).1 ((sEnd d k).2.1)) (sFree d k c (sEnd d k).1 ((sEnd d k).2.1) - (sEnd d k).2.1) (sEarn d k c (sEnd d k).1 ((sEnd d k).2.1)) ((sEnd d k).2.2 + sEarn d k c (sEnd d k).1 ((sEnd d k).2.1)) (sMarg d k c (sEnd d k).1 ((sEnd d k).2.1)))) := by
  refine zMet_of (by decide) (Nat.le_of_ble_eq_true rfl) (fun Γ hC => ?_)
  show Z Γ _ μ 0 [(0, .ref (ad b)), (1, .int (iZ k)), (2, .int (iZ c))] []
  obtain ⟨hN, hP, hB3, hB4⟩ := id hB
  obtain ⟨hN1, hN2⟩ := id hN
  obtain ⟨hs0, hs1, hs2, hs3, hs4, hs6⟩ := hB3 k (by omega)
  have hg : (0 ≤ (sEnd d k).1 ∧ (sEnd d k).1 ≤ 7) ∧ (0 ≤ (sEnd d k).2.1 ∧ (sEnd d k).2.1 ≤ 2000) := hG.2 _ (Nat.le_refl _)
  obtain ⟨hc0, hc1, hc2, hc3, hc4, hc5, hc6⟩ := hB4 c hc
  have hm := sMarg_b hP hs1 (hB4 c hc) hg.1 hg.2
  refine z_aload_n hC dX2_hindrance_0 rfl ?_
  refine z_iload_n hC dX2_hindrance_1 rfl ?_
  refine z_bipush hC dX2_hindrance_2 (by decide) ?_
  refine z_callV hC [.int (iZ k), .int (iZ 10)] 2 rfl dX2_hindrance_4 (fun l => m_X2_follow l G ca ad _ μ b hb d hd k 10 (sNum d k) hB (by omega) (by omega) (Or.inr ⟨sNum_e (by omega), by omega⟩) hG) qM_X2_173 qI_X2_follow qS_X2_follow qi_X2 qC_X2_follow (by decide +kernel) (by decide) (by decide) (cl_desk hb) (cd_desk hb) rfl (Nat.le_of_ble_eq_true rfl) (zk_int (fun μ1 hμ1 => ?_)) rfl
  obtain ⟨hμ1f, hμ10, hμ11, hμ16, hμ1m⟩ := id hμ1
  have hμ10 : μ1 (b + 5) 0 = (sEnd d k).1 := hμ10
  have hμ11 : μ1 (b + 5) 1 = (sEnd d k).2.1 := hμ11
  have hμ16 : μ1 (b + 5) 6 = (sEnd d k).2.2 := hμ16
  have hd2 : vw μ1 b = d := by rw [vw_fr5 hμ1f]; exact hd
  refine z_pop hC dX2_hindrance_7 rfl ?_
  refine z_aload_n hC dX2_hindrance_8 rfl ?_
  refine z_aload_n hC dX2_hindrance_9 rfl ?_
  refine z_get hC iA_X2 rfl 2 (by decide) qF_X2_20 rfl dX2_hindrance_10 (cl_desk hb) (cd_desk hb) rfl ?_
  refine z_iload_n hC dX2_hindrance_13 rfl ?_
  refine z_aald hC dX2_hindrance_14 2 rfl (cl_ships hb) (fun _ i => b + 6 + i) (cd_ships hb) (by omega) (by omega) (by decide) ?_
  refine z_iload_n hC dX2_hindrance_15 rfl ?_
  refine z_callV hC [.ref (ad (b + 6 + k)), .int (iZ c)] 2 rfl dX2_hindrance_16 (fun l => m_X2_sail l G ca ad _ μ1 b hb d hd2 k c ((sEnd d k).1) ((sEnd d k).2.1) ((sEnd d k).2.2) hN hP (by omega) (hB.2.2.1 _ (by omega)) (by omega) (hB.2.2.2 _ (by omega)) (by omega) (by omega) hμ10 hμ11 hμ16) qM_X2_169 qI_X2_sail qS_X2_sail qi_X2 qC_X2_sail (by decide +kernel) (by decide) (by decide) (cl_desk hb) (cd_desk hb) rfl (Nat.le_of_ble_eq_true rfl) (zk_void (fun μ3 hμ3 => ?_)) rfl
  obtain ⟨hμ3f, hμ30, hμ31, hμ32, hμ33, hμ34, hμ35, hμ36, hμ37⟩ := id hμ3
  have hd4 : vw μ3 b = d := by rw [vw_fr5 hμ3f]; exact hd2
  refine z_aload_n hC dX2_hindrance_19 rfl ?_
  refine z_get hC iA_X2 rfl 3 (by decide) qF_X2_26 rfl dX2_hindrance_20 (cl_desk hb) (cd_desk hb) rfl ?_
  refine z_iload_n hC dX2_hindrance_23 rfl ?_
  refine z_aald hC dX2_hindrance_24 3 rfl (cl_cargoes hb) (fun _ i => b + 16 + i) (cd_cargoes hb) (by omega) (by omega) (by decide) ?_
  refine z_get hC iA_X0 rfl 0 (by decide) qF_X2_95 rfl dX2_hindrance_25 (cl_cargo hb (by omega)) (cd_cargo hb (by omega)) rfl ?_
  refine z_top (b := d (16 + c) 0) ((vw_cargo (by omega) (by omega)).symm.trans (congrFun (congrFun hd4 _) _)) ?_
  refine z_aload_n hC dX2_hindrance_28 rfl ?_
  refine z_get hC iA_X2 rfl 2 (by decide) qF_X2_20 rfl dX2_hindrance_29 (cl_desk hb) (cd_desk hb) rfl ?_
  refine z_iload_n hC dX2_hindrance_32 rfl ?_
  refine z_aald hC dX2_hindrance_33 2 rfl (cl_ships hb) (fun _ i => b + 6 + i) (cd_ships hb) (by omega) (by omega) (by decide) ?_
  refine z_get hC iA_X6 rfl 0 (by decide) qF_X2_80 rfl dX2_hindrance_34 (cl_ship hb (by omega)) (cd_ship hb (by omega)) rfl ?_
  refine z_top (b := d (6 + k) 0) ((vw_ship (by omega) (by omega)).symm.trans (congrFun (congrFun hd4 _) _)) ?_
  refine z_icmp_le hC 42 dX2_hindrance_37 (by decide) (by omega) (by omega) (fun c_5 => ?_) (fun c_5 => ?_)
  · refine z_aload_n hC dX2_hindrance_42 rfl ?_
    refine z_get hC iA_X2 rfl 8 (by decide) qF_X2_33 rfl dX2_hindrance_43 (cl_desk hb) (cd_desk hb) rfl ?_
    refine z_get hC iA_X1 rfl 7 (by decide) qF_X2_183 rfl dX2_hindrance_46 (cl_course hb) (cd_course hb) rfl ?_
    refine z_top (b := sMarg d k c ((sEnd d k).1) ((sEnd d k).2.1)) (by rw [hμ37]) ?_
    refine z_if_ge hC 56 dX2_hindrance_49 (by decide) (by omega) (fun c_6 => ?_) (fun c_6 => ?_)
    · refine z_iconst hC dX2_hindrance_56 ?_
      exact z_iret hC dX2_hindrance_57 ⟨by unfold sCould; rw [if_neg (by omega), if_neg (by omega)], (fun c9 hc9 => (hμ3f c9 hc9).trans (hμ1f c9 hc9)), hμ30, hμ31, hμ32, hμ33, hμ34, hμ35, hμ36, hμ37⟩
    · refine z_iconst hC dX2_hindrance_52 ?_
      refine z_goto hC 57 dX2_hindrance_53 (by decide) ?_
      exact z_iret hC dX2_hindrance_57 ⟨by unfold sCould; rw [if_neg (by omega), if_pos (by omega)], (fun c9 hc9 => (hμ3f c9 hc9).trans (hμ1f c9 hc9)), hμ30, hμ31, hμ32, hμ33, hμ34, hμ35, hμ36, hμ37⟩
  · refine z_iconst hC dX2_hindrance_40 ?_
    exact z_iret hC dX2_hindrance_41 ⟨by unfold sCould; rw [if_pos (by omega)], (fun c9 hc9 => (hμ3f c9 hc9).trans (hμ1f c9 hc9)), hμ30, hμ31, hμ32, hμ33, hμ34, hμ35, hμ36, hμ37⟩

set_option maxHeartbeats 4000000 in
set_option maxRecDepth 100000 in
/-- fixturesInTime(ship k) -/
theorem m_X2_fixturesInTime (l : Launch) (G : va_G) (ca : Nat → ClassId) (ad : Int → Nat) (A : Nat → Prop) (μ : zM) (b : Int) (hb : zb b) (d : zM) (hd : vw μ b = d) (k : Int) (hB : bD d) (hk : 0 ≤ k ∧ k < d 0 4) (hF : ∀ n : Nat, n < sNum d k → 0 ≤ d (11 + k) (n : Int) ∧ d (11 + k) (n : Int) < d 0 5) : zMet l (cω G ca ad) A yX2_fixturesInTime cX2_fixturesInTime 4 (some .int) 2 66 [.ref (ad b), .int (iZ k)] μ (zpI (.int (iZ ((sInT d k : Nat) : Int))) (fun μ' => ∀ c, c ≠ b + 5 → μ' c = μ c)) := by
  refine zMet_of (by decide) (Nat.le_of_ble_eq_true rfl) (fun Γ hC => ?_)
  show Z Γ _ μ 0 [(0, .ref (ad b)), (1, .int (iZ k))] []
  obtain ⟨hN, hP, hB3, hB4⟩ := id hB
  obtain ⟨hN1, hN2⟩ := id hN
  obtain ⟨hs0, hs1, hs2, hs3, hs4, hs6⟩ := hB3 k (by omega)
  have hNe := sNum_e (d := d) (k := k) (by omega)
  refine z_aload_n hC dX2_fixturesInTime_0 rfl ?_
  refine z_get hC iA_X2 rfl 2 (by decide) qF_X2_20 rfl dX2_fixturesInTime_1 (cl_desk hb) (cd_desk hb) rfl ?_
  refine z_iload_n hC dX2_fixturesInTime_4 rfl ?_
  refine z_aald hC dX2_fixturesInTime_5 2 rfl (cl_ships hb) (fun _ i => b + 6 + i) (cd_ships hb) (by omega) (by omega) (by decide) ?_
  refine z_astore_n hC dX2_fixturesInTime_6 (by decide) rfl ?_
  refine z_aload_n hC dX2_fixturesInTime_7 rfl ?_
  refine z_get hC iA_X2 rfl 8 (by decide) qF_X2_33 rfl dX2_fixturesInTime_8 (cl_desk hb) (cd_desk hb) rfl ?_
  refine z_aload_n hC dX2_fixturesInTime_11 rfl ?_
  refine z_callV hC [.ref (ad (b + 6 + k))] 1 rfl dX2_fixturesInTime_12 (fun l => m_X1_begin l G ca ad _ μ b hb d hd k (by omega)) qM_X2_166 qI_X1_begin qS_X1_begin qi_X1 qC_X1_begin (by decide +kernel) (by decide) (by decide) (cl_course hb) (cd_course hb) rfl (Nat.le_of_ble_eq_true rfl) (zk_void (fun μ1 hμ1 => ?_)) rfl
  obtain ⟨hμ1f, hμ10, hμ11, hμ16⟩ := id hμ1
  have hd2 : vw μ1 b = d := by rw [vw_fr5 hμ1f]; exact hd
  refine z_iconst hC dX2_fixturesInTime_15 ?_
  refine z_istore_n hC dX2_fixturesInTime_16 (by decide) rfl ?_
  have LOOP : ∀ (r n : Nat), n + r = sNum d k → ∀ μ1 : zM, zFo d b k n μ μ1 → (∀ m : Nat, m < n → 0 ≤ sMarg d k (d (11 + k) (m : Int)) (sPos d k m).1 (sPos d k m).2.1) → sTime d k r n = sInT d k → Z Γ (cω G ca ad) μ1 17 [(3, .int (iZ (n : Int))), (0, .ref (ad b)), (2, .ref (ad (b + 6 + k)))] [] := by
    intro r
    induction r with
    | zero =>
      intro n hn μ1 hI ht hT
      obtain ⟨hI0, hI1, hI2, hI3, hI4⟩ := id hI
      have hd1 : vw μ1 b = d := by rw [vw_fr5 hI0]; exact hd
      refine z_iload_n hC dX2_fixturesInTime_17 rfl ?_
      refine z_aload_n hC dX2_fixturesInTime_18 rfl ?_
      refine z_get hC iA_X6 rfl 6 (by decide) qF_X2_126 rfl dX2_fixturesInTime_19 (cl_ship hb (by omega)) (cd_ship hb (by omega)) rfl ?_
      refine z_top (b := d (6 + k) 6) ((vw_ship (by omega) (by omega)).symm.trans (congrFun (congrFun hd1 _) _)) ?_
      refine z_icmp_ge hC 54 dX2_fixturesInTime_22 (by decide) (by omega) (by omega) (fun c_3 => ?_) (fun c_3 => ?_)
      · refine z_aload_n hC dX2_fixturesInTime_54 rfl ?_
        refine z_get hC iA_X6 rfl 6 (by decide) qF_X2_126 rfl dX2_fixturesInTime_55 (cl_ship hb (by omega)) (cd_ship hb (by omega)) rfl ?_
        refine z_top (b := d (6 + k) 6) ((vw_ship (by omega) (by omega)).symm.trans (congrFun (congrFun hd1 _) _)) ?_
        exact z_iret hC dX2_fixturesInTime_58 ⟨by rw [← hT, show d (6 + k) 6 = (n : Int) by omega]; rfl, hI0⟩
      · exfalso; omega
    | succ r ih =>
      intro n hn μ1 hI ht hT
      obtain ⟨hI0, hI1, hI2, hI3, hI4⟩ := id hI
      have hd1 : vw μ1 b = d := by rw [vw_fr5 hI0]; exact hd
      have hg1 := hF n (by omega)
      have hg2 := sPos_b hB (by omega) n (fun m hm => hF m (by omega)) ht
      have hm9 := sMarg_b (t := (sPos d k n).2.1) hP hs1 (hB4 _ hg1) hg2.1 (by omega)
      refine z_iload_n hC dX2_fixturesInTime_17 rfl ?_
      refine z_aload_n hC dX2_fixturesInTime_18 rfl ?_
      refine z_get hC iA_X6 rfl 6 (by decide) qF_X2_126 rfl dX2_fixturesInTime_19 (cl_ship hb (by omega)) (cd_ship hb (by omega)) rfl ?_
      refine z_top (b := d (6 + k) 6) ((vw_ship (by omega) (by omega)).symm.trans (congrFun (congrFun hd1 _) _)) ?_
      refine z_icmp_ge hC 54 dX2_fixturesInTime_22 (by decide) (by omega) (by omega) (fun c_4 => ?_) (fun c_4 => ?_)
      · exfalso; omega
      · refine z_aload_n hC dX2_fixturesInTime_25 rfl ?_
        refine z_aload_n hC dX2_fixturesInTime_26 rfl ?_
        refine z_aload_n hC dX2_fixturesInTime_27 rfl ?_
        refine z_get hC iA_X6 rfl 7 (by decide) qF_X2_129 rfl dX2_fixturesInTime_28 (cl_ship hb (by omega)) (cd_ship hb (by omega)) rfl ?_
        refine z_iload_n hC dX2_fixturesInTime_31 rfl ?_
        refine z_iald hC dX2_fixturesInTime_32 (cl_fx hb (by omega)) (cd_fx hb (by omega)) (by omega) (by omega) (by decide) ?_
        refine z_top (b := d (11 + k) (n : Int)) ((vw_fx (by omega) (by omega)).symm.trans (congrFun (congrFun hd1 _) _)) ?_
        refine z_callV hC [.ref (ad (b + 6 + k)), .int (iZ (d (11 + k) (n : Int)))] 2 rfl dX2_fixturesInTime_33 (fun l => m_X2_sail l G ca ad _ μ1 b hb d hd1 k (d (11 + k) (n : Int)) ((sPos d k n).1) ((sPos d k n).2.1) ((sPos d k n).2.2) hN hP (by omega) (hB.2.2.1 _ (by omega)) (by omega) (hB.2.2.2 _ (by omega)) (by omega) (by omega) hI1 hI2 hI3) qM_X2_169 qI_X2_sail qS_X2_sail qi_X2 qC_X2_sail (by decide +kernel) (by decide) (by decide) (cl_desk hb) (cd_desk hb) rfl (Nat.le_of_ble_eq_true rfl) (zk_void (fun μ5 hμ5 => ?_)) rfl
        obtain ⟨hμ5f, hμ50, hμ51, hμ52, hμ53, hμ54, hμ55, hμ56, hμ57⟩ := id hμ5
        have hd6 : vw μ5 b = d := by rw [vw_fr5 hμ5f]; exact hd1
        refine z_aload_n hC dX2_fixturesInTime_36 rfl ?_
        refine z_get hC iA_X2 rfl 8 (by decide) qF_X2_33 rfl dX2_fixturesInTime_37 (cl_desk hb) (cd_desk hb) rfl ?_
        refine z_get hC iA_X1 rfl 7 (by decide) qF_X2_183 rfl dX2_fixturesInTime_40 (cl_course hb) (cd_course hb) rfl ?_
        refine z_top (b := sMarg d k (d (11 + k) (n : Int)) ((sPos d k n).1) ((sPos d k n).2.1)) (by rw [hμ57]) ?_
        refine z_if_ge hC 48 dX2_fixturesInTime_43 (by decide) (by omega) (fun c_7 => ?_) (fun c_7 => ?_)
        · refine z_iinc hC dX2_fixturesInTime_48 rfl (by decide) rfl ?_
          refine z_goto hC 17 dX2_fixturesInTime_51 (by decide) ?_
          refine z_weak (L' := [(3, .int (iZ ((n + 1 : Nat) : Int))), (0, .ref (ad b)), (2, .ref (ad (b + 6 + k)))]) ⟨rfl, rfl, rfl, trivial⟩ ?_
          exact ih (n + 1) (by omega) _ (zFo_s hI hμ5) (fun m hm => by
            rcases Nat.lt_or_ge m n with q | q
            · exact ht m q
            · have e : m = n := by omega
              rw [e]
              omega) (by rw [← hT, sTime_n (by omega)])
        · refine z_iload_n hC dX2_fixturesInTime_46 rfl ?_
          exact z_iret hC dX2_fixturesInTime_47 ⟨by rw [← hT, sTime_p (by omega)], (fun c9 hc9 => (hμ5f c9 hc9).trans (hI0 c9 hc9))⟩
  refine z_weak (L' := [(3, .int (iZ ((0 : Nat) : Int))), (0, .ref (ad b)), (2, .ref (ad (b + 6 + k)))]) ⟨rfl, rfl, rfl, trivial⟩ ?_
  exact LOOP (sNum d k) 0 (by omega) _ ⟨hμ1f, hμ10, hμ11, hμ16, fun m hm => absurd hm (by omega)⟩ (fun m hm => absurd hm (by omega)) rfl

set_option maxHeartbeats 4000000 in
set_option maxRecDepth 100000 in
/-- slackOf(ship k) -/
theorem m_X2_slackOf (l : Launch) (G : va_G) (ca : Nat → ClassId) (ad : Int → Nat) (A : Nat → Prop) (μ : zM) (b : Int) (hb : zb b) (d : zM) (hd : vw μ b = d) (k : Int) (hB : bD d) (hk : 0 ≤ k ∧ k < d 0 4) (hG : zGo d k (sNum d k)) : zMet l (cω G ca ad) A yX2_slackOf cX2_slackOf 7 (some .int) 2 66 [.ref (ad b), .int (iZ k)] μ (zpI (.int (iZ (sL d k (sNum d k)))) (fun μ' => ∀ c, c ≠ b + 5 → μ' c = μ c)) := by
  refine zMet_of (by decide) (Nat.le_of_ble_eq_true rfl) (fun Γ hC => ?_)
  show Z Γ _ μ 0 [(0, .ref (ad b)), (1, .int (iZ k))] []
  obtain ⟨hN, hP, hB3, hB4⟩ := id hB
  obtain ⟨hN1, hN2⟩ := id hN
  obtain ⟨hs0, hs1, hs2, hs3, hs4, hs6⟩ := hB3 k (by omega)
  have hNe := sNum_e (d := d) (k := k) (by omega)
  refine z_aload_n hC dX2_slackOf_0 rfl ?_
  refine z_get hC iA_X2 rfl 2 (by decide) qF_X2_20 rfl dX2_slackOf_1 (cl_desk hb) (cd_desk hb) rfl ?_
  refine z_iload_n hC dX2_slackOf_4 rfl ?_
  refine z_aald hC dX2_slackOf_5 2 rfl (cl_ships hb) (fun _ i => b + 6 + i) (cd_ships hb) (by omega) (by omega) (by decide) ?_
  refine z_astore_n hC dX2_slackOf_6 (by decide) rfl ?_
  refine z_ldc hC (-1000004) qc_X2_200 rfl dX2_slackOf_7 ?_
  refine z_istore_n hC dX2_slackOf_9 (by decide) rfl ?_
  refine z_iconst hC dX2_slackOf_10 ?_
  refine z_istore hC dX2_slackOf_11 (by decide) rfl ?_
  refine z_aload_n hC dX2_slackOf_13 rfl ?_
  refine z_get hC iA_X2 rfl 8 (by decide) qF_X2_33 rfl dX2_slackOf_14 (cl_desk hb) (cd_desk hb) rfl ?_
  refine z_aload_n hC dX2_slackOf_17 rfl ?_
  refine z_callV hC [.ref (ad (b + 6 + k))] 1 rfl dX2_slackOf_18 (fun l => m_X1_begin l G ca ad _ μ b hb d hd k (by omega)) qM_X2_166 qI_X1_begin qS_X1_begin qi_X1 qC_X1_begin (by decide +kernel) (by decide) (by decide) (cl_course hb) (cd_course hb) rfl (Nat.le_of_ble_eq_true rfl) (zk_void (fun μ1 hμ1 => ?_)) rfl
  obtain ⟨hμ1f, hμ10, hμ11, hμ16⟩ := id hμ1
  have hd2 : vw μ1 b = d := by rw [vw_fr5 hμ1f]; exact hd
  refine z_iconst hC dX2_slackOf_21 ?_
  refine z_istore hC dX2_slackOf_22 (by decide) rfl ?_
  have LOOP : ∀ (r n : Nat), n + r = sNum d k → ∀ μ1 : zM, zFo d b k n μ μ1 → Z Γ (cω G ca ad) μ1 24 [(5, .int (iZ (n : Int))), (4, .int (iZ (sW d k n))), (3, .int (iZ (sL d k n))), (0, .ref (ad b)), (2, .ref (ad (b + 6 + k)))] [] := by
    intro r
    induction r with
    | zero =>
      intro n hn μ1 hI
      obtain ⟨hI0, hI1, hI2, hI3, hI4⟩ := id hI
      have hd1 : vw μ1 b = d := by rw [vw_fr5 hI0]; exact hd
      refine z_iload hC dX2_slackOf_24 rfl ?_
      refine z_aload_n hC dX2_slackOf_26 rfl ?_
      refine z_get hC iA_X6 rfl 6 (by decide) qF_X2_126 rfl dX2_slackOf_27 (cl_ship hb (by omega)) (cd_ship hb (by omega)) rfl ?_
      refine z_top (b := d (6 + k) 6) ((vw_ship (by omega) (by omega)).symm.trans (congrFun (congrFun hd1 _) _)) ?_
      refine z_icmp_ge hC 100 dX2_slackOf_30 (by decide) (by omega) (by omega) (fun c_3 => ?_) (fun c_3 => ?_)
      · refine z_iload_n hC dX2_slackOf_100 rfl ?_
        obtain rfl : n = sNum d k := by omega
        exact z_iret hC dX2_slackOf_101 ⟨rfl, hI0⟩
      · exfalso; omega
    | succ r ih =>
      intro n hn μ1 hI
      obtain ⟨hI0, hI1, hI2, hI3, hI4⟩ := id hI
      have hd1 : vw μ1 b = d := by rw [vw_fr5 hI0]; exact hd
      have hg1 := hG.1 n (by omega)
      have hg2 := hG.2 n (by omega)
      have hm9 := sMarg_b (t := (sPos d k n).2.1) hP hs1 (hB4 _ hg1) hg2.1 (by omega)
      have hw9 := sWL_b hB hk hG n (by omega)
      refine z_iload hC dX2_slackOf_24 rfl ?_
      refine z_aload_n hC dX2_slackOf_26 rfl ?_
      refine z_get hC iA_X6 rfl 6 (by decide) qF_X2_126 rfl dX2_slackOf_27 (cl_ship hb (by omega)) (cd_ship hb (by omega)) rfl ?_
      refine z_top (b := d (6 + k) 6) ((vw_ship (by omega) (by omega)).symm.trans (congrFun (congrFun hd1 _) _)) ?_
      refine z_icmp_ge hC 100 dX2_slackOf_30 (by decide) (by omega) (by omega) (fun c_4 => ?_) (fun c_4 => ?_)
      · exfalso; omega
      · refine z_aload_n hC dX2_slackOf_33 rfl ?_
        refine z_aload_n hC dX2_slackOf_34 rfl ?_
        refine z_aload_n hC dX2_slackOf_35 rfl ?_
        refine z_get hC iA_X6 rfl 7 (by decide) qF_X2_129 rfl dX2_slackOf_36 (cl_ship hb (by omega)) (cd_ship hb (by omega)) rfl ?_
        refine z_iload hC dX2_slackOf_39 rfl ?_
        refine z_iald hC dX2_slackOf_41 (cl_fx hb (by omega)) (cd_fx hb (by omega)) (by omega) (by omega) (by decide) ?_
        refine z_top (b := d (11 + k) (n : Int)) ((vw_fx (by omega) (by omega)).symm.trans (congrFun (congrFun hd1 _) _)) ?_
        refine z_callV hC [.ref (ad (b + 6 + k)), .int (iZ (d (11 + k) (n : Int)))] 2 rfl dX2_slackOf_42 (fun l => m_X2_sail l G ca ad _ μ1 b hb d hd1 k (d (11 + k) (n : Int)) ((sPos d k n).1) ((sPos d k n).2.1) ((sPos d k n).2.2) hN hP (by omega) (hB.2.2.1 _ (by omega)) (by omega) (hB.2.2.2 _ (by omega)) (by omega) (by omega) hI1 hI2 hI3) qM_X2_169 qI_X2_sail qS_X2_sail qi_X2 qC_X2_sail (by decide +kernel) (by decide) (by decide) (cl_desk hb) (cd_desk hb) rfl (Nat.le_of_ble_eq_true rfl) (zk_void (fun μ5 hμ5 => ?_)) rfl
        obtain ⟨hμ5f, hμ50, hμ51, hμ52, hμ53, hμ54, hμ55, hμ56, hμ57⟩ := id hμ5
        have hd6 : vw μ5 b = d := by rw [vw_fr5 hμ5f]; exact hd1
        refine z_aload_n hC dX2_slackOf_45 rfl ?_
        refine z_get hC iA_X2 rfl 8 (by decide) qF_X2_33 rfl dX2_slackOf_46 (cl_desk hb) (cd_desk hb) rfl ?_
        refine z_get hC iA_X1 rfl 7 (by decide) qF_X2_183 rfl dX2_slackOf_49 (cl_course hb) (cd_course hb) rfl ?_
        refine z_top (b := sMarg d k (d (11 + k) (n : Int)) ((sPos d k n).1) ((sPos d k n).2.1)) (by rw [hμ57]) ?_
        refine z_iload hC dX2_slackOf_52 rfl ?_
        refine z_iadd hC dX2_slackOf_54 ?_
        refine z_istore hC dX2_slackOf_55 (by decide) rfl ?_
        refine z_iload hC dX2_slackOf_57 rfl ?_
        refine z_if_ne hC 67 dX2_slackOf_59 (by decide) (by omega) (fun c_7 => ?_) (fun c_7 => ?_)
        · refine z_iload_n hC dX2_slackOf_67 rfl ?_
          refine z_iload hC dX2_slackOf_68 rfl ?_
          refine z_min hC qM_X2_201 dX2_slackOf_70 (by omega) (by omega) (by decide) (Nat.le_of_ble_eq_true rfl) ?_
          refine z_top (b := sL d k (n + 1)) (sL_s (by omega)) ?_
          refine z_istore_n hC dX2_slackOf_73 (by decide) rfl ?_
          refine z_iload hC dX2_slackOf_74 rfl ?_
          refine z_aload_n hC dX2_slackOf_76 rfl ?_
          refine z_get hC iA_X2 rfl 8 (by decide) qF_X2_33 rfl dX2_slackOf_77 (cl_desk hb) (cd_desk hb) rfl ?_
          refine z_get hC iA_X1 rfl 3 (by decide) qF_X2_191 rfl dX2_slackOf_80 (cl_course hb) (cd_course hb) rfl ?_
          refine z_top (b := sLoad d k (d (11 + k) (n : Int)) ((sPos d k n).1) ((sPos d k n).2.1)) (by rw [hμ53]) ?_
          refine z_aload_n hC dX2_slackOf_83 rfl ?_
          refine z_get hC iA_X2 rfl 8 (by decide) qF_X2_33 rfl dX2_slackOf_84 (cl_desk hb) (cd_desk hb) rfl ?_
          refine z_get hC iA_X1 rfl 2 (by decide) qF_X2_180 rfl dX2_slackOf_87 (cl_course hb) (cd_course hb) rfl ?_
          refine z_top (b := sArr d k (d (11 + k) (n : Int)) ((sPos d k n).1) ((sPos d k n).2.1)) (by rw [hμ52]) ?_
          refine z_isub hC dX2_slackOf_90 ?_
          refine z_iadd hC dX2_slackOf_91 ?_
          refine z_top (b := sW d k (n + 1)) rfl ?_
          refine z_istore hC dX2_slackOf_92 (by decide) rfl ?_
          refine z_iinc hC dX2_slackOf_94 rfl (by decide) rfl ?_
          refine z_goto hC 24 dX2_slackOf_97 (by decide) ?_
          refine z_weak (L' := [(5, .int (iZ ((n + 1 : Nat) : Int))), (4, .int (iZ (sW d k (n + 1)))), (3, .int (iZ (sL d k (n + 1)))), (0, .ref (ad b)), (2, .ref (ad (b + 6 + k)))]) ⟨rfl, rfl, rfl, rfl, rfl, trivial⟩ ?_
          exact ih (n + 1) (by omega) _ (zFo_s hI hμ5)
        · refine z_iload hC dX2_slackOf_62 rfl ?_
          refine z_goto hC 73 dX2_slackOf_64 (by decide) ?_
          refine z_top (b := sL d k (n + 1)) (sL_f (by omega)) ?_
          refine z_istore_n hC dX2_slackOf_73 (by decide) rfl ?_
          refine z_iload hC dX2_slackOf_74 rfl ?_
          refine z_aload_n hC dX2_slackOf_76 rfl ?_
          refine z_get hC iA_X2 rfl 8 (by decide) qF_X2_33 rfl dX2_slackOf_77 (cl_desk hb) (cd_desk hb) rfl ?_
          refine z_get hC iA_X1 rfl 3 (by decide) qF_X2_191 rfl dX2_slackOf_80 (cl_course hb) (cd_course hb) rfl ?_
          refine z_top (b := sLoad d k (d (11 + k) (n : Int)) ((sPos d k n).1) ((sPos d k n).2.1)) (by rw [hμ53]) ?_
          refine z_aload_n hC dX2_slackOf_83 rfl ?_
          refine z_get hC iA_X2 rfl 8 (by decide) qF_X2_33 rfl dX2_slackOf_84 (cl_desk hb) (cd_desk hb) rfl ?_
          refine z_get hC iA_X1 rfl 2 (by decide) qF_X2_180 rfl dX2_slackOf_87 (cl_course hb) (cd_course hb) rfl ?_
          refine z_top (b := sArr d k (d (11 + k) (n : Int)) ((sPos d k n).1) ((sPos d k n).2.1)) (by rw [hμ52]) ?_
          refine z_isub hC dX2_slackOf_90 ?_
          refine z_iadd hC dX2_slackOf_91 ?_
          refine z_top (b := sW d k (n + 1)) rfl ?_
          refine z_istore hC dX2_slackOf_92 (by decide) rfl ?_
          refine z_iinc hC dX2_slackOf_94 rfl (by decide) rfl ?_
          refine z_goto hC 24 dX2_slackOf_97 (by decide) ?_
          refine z_weak (L' := [(5, .int (iZ ((n + 1 : Nat) : Int))), (4, .int (iZ (sW d k (n + 1)))), (3, .int (iZ (sL d k (n + 1)))), (0, .ref (ad b)), (2, .ref (ad (b + 6 + k)))]) ⟨rfl, rfl, rfl, rfl, rfl, trivial⟩ ?_
          exact ih (n + 1) (by omega) _ (zFo_s hI hμ5)
  refine z_weak (L' := [(5, .int (iZ ((0 : Nat) : Int))), (4, .int (iZ (sW d k 0))), (3, .int (iZ (sL d k 0))), (0, .ref (ad b)), (2, .ref (ad (b + 6 + k)))]) ⟨rfl, rfl, rfl, rfl, rfl, trivial⟩ ?_
  exact LOOP (sNum d k) 0 (by omega) _ ⟨hμ1f, hμ10, hμ11, hμ16, fun m hm => absurd hm (by omega)⟩

set_option maxHeartbeats 4000000 in
set_option maxRecDepth 100000 in
/-- cargoesThatAre(st) -/
theorem m_X2_cargoesThatAre (l : Launch) (G : va_G) (ca : Nat → ClassId) (ad : Int → Nat) (A : Nat → Prop) (μ : zM) (b : Int) (hb : zb b) (d : zM) (hd : vw μ b = d) (st : Int) (hst : -2147483648 ≤ st ∧ st ≤ 2147483647) (N : Nat) (hNN : (N : Int) = d 0 5) (hB : bD d) : zMet l (cω G ca ad) A yX2_cargoesThatAre cX2_cargoesThatAre 4 (some .int) 0 0 [.ref (ad b), .int (iZ st)] μ (zpI (.int (iZ (sCnt d st N))) (fun m => m = μ)) := by
  refine zMet_of (by decide) (Nat.le_of_ble_eq_true rfl) (fun Γ hC => ?_)
  show Z Γ _ μ 0 [(0, .ref (ad b)), (1, .int (iZ st))] []
  obtain ⟨hN, hP, hB3, hB4⟩ := id hB
  obtain ⟨hN1, hN2⟩ := id hN
  refine z_iconst hC dX2_cargoesThatAre_0 ?_
  refine z_istore_n hC dX2_cargoesThatAre_1 (by decide) rfl ?_
  refine z_iconst hC dX2_cargoesThatAre_2 ?_
  refine z_istore_n hC dX2_cargoesThatAre_3 (by decide) rfl ?_
  have LOOP : ∀ (r n : Nat), n + r = N → ∀ a : Int, a = sCnt d st n → Z Γ (cω G ca ad) μ 4 [(3, .int (iZ (n : Int))), (2, .int (iZ a)), (0, .ref (ad b)), (1, .int (iZ st))] [] := by
    intro r
    induction r with
    | zero =>
      intro n hn a ha
      refine z_iload_n hC dX2_cargoesThatAre_4 rfl ?_
      refine z_aload_n hC dX2_cargoesThatAre_5 rfl ?_
      refine z_get hC iA_X2 rfl 5 (by decide) qF_X2_56 rfl dX2_cargoesThatAre_6 (cl_desk hb) (cd_desk hb) rfl ?_
      refine z_top (b := d 0 5) ((vw_Cn).symm.trans (congrFun (congrFun hd _) _)) ?_
      refine z_icmp_ge hC 34 dX2_cargoesThatAre_9 (by decide) (by omega) (by omega) (fun c_1 => ?_) (fun c_1 => ?_)
      · refine z_iload_n hC dX2_cargoesThatAre_34 rfl ?_
        obtain rfl : n = N := by omega
        exact z_iret hC dX2_cargoesThatAre_35 ⟨by rw [ha], rfl⟩
      · exfalso; omega
    | succ r ih =>
      intro n hn a ha
      have hn9 : (n : Int) < d 0 5 := by omega
      obtain ⟨hc0, hc1, hc2, hc3, hc4, hc5, hc6⟩ := hB4 (n : Int) (by omega)
      refine z_iload_n hC dX2_cargoesThatAre_4 rfl ?_
      refine z_aload_n hC dX2_cargoesThatAre_5 rfl ?_
      refine z_get hC iA_X2 rfl 5 (by decide) qF_X2_56 rfl dX2_cargoesThatAre_6 (cl_desk hb) (cd_desk hb) rfl ?_
      refine z_top (b := d 0 5) ((vw_Cn).symm.trans (congrFun (congrFun hd _) _)) ?_
      refine z_icmp_ge hC 34 dX2_cargoesThatAre_9 (by decide) (by omega) (by omega) (fun c_2 => ?_) (fun c_2 => ?_)
      · exfalso; omega
      · refine z_aload_n hC dX2_cargoesThatAre_12 rfl ?_
        refine z_get hC iA_X2 rfl 3 (by decide) qF_X2_26 rfl dX2_cargoesThatAre_13 (cl_desk hb) (cd_desk hb) rfl ?_
        refine z_iload_n hC dX2_cargoesThatAre_16 rfl ?_
        refine z_aald hC dX2_cargoesThatAre_17 3 rfl (cl_cargoes hb) (fun _ i => b + 16 + i) (cd_cargoes hb) (by omega) (by omega) (by decide) ?_
        refine z_get hC iA_X0 rfl 6 (by decide) qF_X2_119 rfl dX2_cargoesThatAre_18 (cl_cargo hb (by omega)) (cd_cargo hb (by omega)) rfl ?_
        refine z_top (b := d (16 + (n : Int)) 6) ((vw_cargo (by omega) (by omega)).symm.trans (congrFun (congrFun hd _) _)) ?_
        refine z_iload_n hC dX2_cargoesThatAre_21 rfl ?_
        refine z_icmp_ne hC 28 dX2_cargoesThatAre_22 (by decide) (by omega) (by omega) (fun c_3 => ?_) (fun c_3 => ?_)
        · refine z_iinc hC dX2_cargoesThatAre_28 rfl (by decide) rfl ?_
          refine z_goto hC 4 dX2_cargoesThatAre_31 (by decide) ?_
          refine z_weak (L' := [(3, .int (iZ ((n + 1 : Nat) : Int))), (2, .int (iZ (a))), (0, .ref (ad b)), (1, .int (iZ st))]) ⟨rfl, rfl, rfl, rfl, trivial⟩ ?_
          exact ih (n + 1) (by omega) _ (by unfold sCnt; split <;> omega)
        · refine z_iinc hC dX2_cargoesThatAre_25 rfl (by decide) rfl ?_
          refine z_iinc hC dX2_cargoesThatAre_28 rfl (by decide) rfl ?_
          refine z_goto hC 4 dX2_cargoesThatAre_31 (by decide) ?_
          refine z_weak (L' := [(3, .int (iZ ((n + 1 : Nat) : Int))), (2, .int (iZ (a + 1))), (0, .ref (ad b)), (1, .int (iZ st))]) ⟨rfl, rfl, rfl, rfl, trivial⟩ ?_
          exact ih (n + 1) (by omega) _ (by unfold sCnt; split <;> omega)
  refine z_weak (L' := [(3, .int (iZ ((0 : Nat) : Int))), (2, .int (iZ 0)), (0, .ref (ad b)), (1, .int (iZ st))]) ⟨rfl, rfl, rfl, rfl, trivial⟩ ?_
  exact LOOP N 0 (by omega) _ rfl

set_option maxHeartbeats 4000000 in
set_option maxRecDepth 100000 in
/-- accountsTogether() -/
theorem m_X2_accountsTogether (l : Launch) (G : va_G) (ca : Nat → ClassId) (ad : Int → Nat) (A : Nat → Prop) (μ : zM) (b : Int) (hb : zb b) (d : zM) (hd : vw μ b = d) (N : Nat) (hNN : (N : Int) = d 0 4) (hB : bD d) : zMet l (cω G ca ad) A yX2_accountsTogether cX2_accountsTogether 3 (some .int) 0 0 [.ref (ad b)] μ (zpI (.int (iZ (sAcc d N))) (fun m => m = μ)) := by
  refine zMet_of (by decide) (Nat.le_of_ble_eq_true rfl) (fun Γ hC => ?_)
  show Z Γ _ μ 0 [(0, .ref (ad b))] []
  obtain ⟨hN, hP, hB3, hB4⟩ := id hB
  obtain ⟨hN1, hN2⟩ := id hN
  refine z_iconst hC dX2_accountsTogether_0 ?_
  refine z_istore_n hC dX2_accountsTogether_1 (by decide) rfl ?_
  refine z_iconst hC dX2_accountsTogether_2 ?_
  refine z_istore_n hC dX2_accountsTogether_3 (by decide) rfl ?_
  have LOOP : ∀ (r n : Nat), n + r = N → ∀ a : Int, a = sAcc d n → Z Γ (cω G ca ad) μ 4 [(2, .int (iZ (n : Int))), (1, .int (iZ a)), (0, .ref (ad b))] [] := by
    intro r
    induction r with
    | zero =>
      intro n hn a ha
      refine z_iload_n hC dX2_accountsTogether_4 rfl ?_
      refine z_aload_n hC dX2_accountsTogether_5 rfl ?_
      refine z_get hC iA_X2 rfl 4 (by decide) qF_X2_52 rfl dX2_accountsTogether_6 (cl_desk hb) (cd_desk hb) rfl ?_
      refine z_top (b := d 0 4) ((vw_S).symm.trans (congrFun (congrFun hd _) _)) ?_
      refine z_icmp_ge hC 30 dX2_accountsTogether_9 (by decide) (by omega) (by omega) (fun c_1 => ?_) (fun c_1 => ?_)
      · refine z_iload_n hC dX2_accountsTogether_30 rfl ?_
        obtain rfl : n = N := by omega
        exact z_iret hC dX2_accountsTogether_31 ⟨by rw [ha], rfl⟩
      · exfalso; omega
    | succ r ih =>
      intro n hn a ha
      have hn9 : (n : Int) < d 0 4 := by omega
      refine z_iload_n hC dX2_accountsTogether_4 rfl ?_
      refine z_aload_n hC dX2_accountsTogether_5 rfl ?_
      refine z_get hC iA_X2 rfl 4 (by decide) qF_X2_52 rfl dX2_accountsTogether_6 (cl_desk hb) (cd_desk hb) rfl ?_
      refine z_top (b := d 0 4) ((vw_S).symm.trans (congrFun (congrFun hd _) _)) ?_
      refine z_icmp_ge hC 30 dX2_accountsTogether_9 (by decide) (by omega) (by omega) (fun c_2 => ?_) (fun c_2 => ?_)
      · exfalso; omega
      · refine z_iload_n hC dX2_accountsTogether_12 rfl ?_
        refine z_aload_n hC dX2_accountsTogether_13 rfl ?_
        refine z_get hC iA_X2 rfl 2 (by decide) qF_X2_20 rfl dX2_accountsTogether_14 (cl_desk hb) (cd_desk hb) rfl ?_
        refine z_iload_n hC dX2_accountsTogether_17 rfl ?_
        refine z_aald hC dX2_accountsTogether_18 2 rfl (cl_ships hb) (fun _ i => b + 6 + i) (cd_ships hb) (by omega) (by omega) (by decide) ?_
        refine z_get hC iA_X6 rfl 5 (by decide) qF_X2_152 rfl dX2_accountsTogether_19 (cl_ship hb (by omega)) (cd_ship hb (by omega)) rfl ?_
        refine z_top (b := d (6 + (n : Int)) 5) ((vw_ship (by omega) (by omega)).symm.trans (congrFun (congrFun hd _) _)) ?_
        refine z_iadd hC dX2_accountsTogether_22 ?_
        refine z_istore_n hC dX2_accountsTogether_23 (by decide) rfl ?_
        refine z_iinc hC dX2_accountsTogether_24 rfl (by decide) rfl ?_
        refine z_goto hC 4 dX2_accountsTogether_27 (by decide) ?_
        refine z_weak (L' := [(2, .int (iZ ((n + 1 : Nat) : Int))), (1, .int (iZ (a + (d (6 + (n : Int)) 5)))), (0, .ref (ad b))]) ⟨rfl, rfl, rfl, trivial⟩ ?_
        exact ih (n + 1) (by omega) _ (by unfold sAcc; rw [ha])
  refine z_weak (L' := [(2, .int (iZ ((0 : Nat) : Int))), (1, .int (iZ 0)), (0, .ref (ad b))]) ⟨rfl, rfl, rfl, trivial⟩ ?_
  exact LOOP N 0 (by omega) _ rfl
end
section
set_option maxHeartbeats 4000000 in
set_option maxRecDepth 100000 in
/-- choose(k0, k1, c0, c1) -/
theorem m_X2_choose (l : Launch) (G : va_G) (ca : Nat → ClassId) (ad : Int → Nat) (A : Nat → Prop) (μ : zM) (b : Int) (hb : zb b) (d : zM) (hd : vw μ b = d) (k0 k1 c0 c1 : Int) (nk m : Nat) (hB : bD d) (hG : ∀ k, 0 ≤ k ∧ k < d 0 4 → zGo d k (sNum d k)) (hk0 : 0 ≤ k0) (hk1 : k1 = k0 + (nk : Int)) (hk2 : k1 ≤ d 0 4) (hc0 : 0 ≤ c0) (hc1 : c1 = c0 + (m : Int)) (hc2 : c1 ≤ d 0 5) : zMet l (cω G ca ad) A yX2_choose cX2_choose 8 (some .boolean) 4 112 [.ref (ad b), .int (iZ k0), .int (iZ k1), .int (iZ c0), .int (iZ c1)] μ (zpI (.int (iZ (zB ((sAll d k0 c0 m nk (0, μ b 9, μ b 10, μ b 11)).1 = 1)))) (fun μ' => zF2 μ b μ' ∧ μ' b 9 = (sAll d k0 c0 m nk (0, μ b 9, μ b 10, μ b 11)).2.1 ∧ μ' b 10 = (sAll d k0 c0 m nk (0, μ b 9, μ b 10, μ b 11)).2.2.1 ∧ μ' b 11 = (sAll d k0 c0 m nk (0, μ b 9, μ b 10, μ b 11)).2.2.2)) := by
  refine zMet_of (by decide) (Nat.le_of_ble_eq_true rfl) (fun Γ hC => ?_)
  show Z Γ _ μ 0 [(0, .ref (ad b)), (1, .int (iZ k0)), (2, .int (iZ k1)), (3, .int (iZ c0)), (4, .int (iZ c1))] []
  obtain ⟨hN, hP, hB3, hB4⟩ := id hB
  obtain ⟨hN1, hN2⟩ := id hN
  refine z_iconst hC dX2_choose_0 ?_
  refine z_istore hC dX2_choose_1 (by decide) rfl ?_
  refine z_iload_n hC dX2_choose_3 rfl ?_
  refine z_istore hC dX2_choose_4 (by decide) rfl ?_
  have LOOP : ∀ (r n : Nat), n + r = nk → ∀ (μ1 : zM) (x : Int), x = k0 + (n : Int) → zF2 μ b μ1 → μ1 b 9 = (sAll d k0 c0 m n (0, μ b 9, μ b 10, μ b 11)).2.1 → μ1 b 10 = (sAll d k0 c0 m n (0, μ b 9, μ b 10, μ b 11)).2.2.1 → μ1 b 11 = (sAll d k0 c0 m n (0, μ b 9, μ b 10, μ b 11)).2.2.2 → Z Γ (cω G ca ad) μ1 6 [(6, .int (iZ x)), (5, .int (iZ (sAll d k0 c0 m n (0, μ b 9, μ b 10, μ b 11)).1)), (0, .ref (ad b)), (2, .int (iZ k1)), (3, .int (iZ c0)), (4, .int (iZ c1))] [] := by
    intro r
    induction r with
    | zero =>
      intro n hn μ1 x hx hF1 hp9 hp10 hp11
      have hd1 : vw μ1 b = d := by rw [vw_f2 hF1]; exact hd
      refine z_iload hC dX2_choose_6 rfl ?_
      refine z_iload_n hC dX2_choose_8 rfl ?_
      refine z_icmp_ge hC 106 dX2_choose_9 (by decide) (by omega) (by omega) (fun c_1 => ?_) (fun c_1 => ?_)
      · refine z_iload hC dX2_choose_106 rfl ?_
        obtain rfl : n = nk := by omega
        refine z_top (b := zB ((sAll d k0 c0 m n (0, μ b 9, μ b 10, μ b 11)).1 = 1)) ?_ ?_
        · rcases sAll_01 (d := d) (k := k0) (c := c0) (m := m) (q := (0, μ b 9, μ b 10, μ b 11)) (Or.inl rfl) n with q9 | q9
          · rw [q9]; rfl
          · rw [q9]; rfl
        · exact z_zret hC dX2_choose_108 ⟨rfl, hF1, hp9, hp10, hp11⟩
      · exfalso; omega
    | succ r ih =>
      intro n hn μ1 x hx hF1 hp9 hp10 hp11
      have hd1 : vw μ1 b = d := by rw [vw_f2 hF1]; exact hd
      have hkx : 0 ≤ x ∧ x < d 0 4 := by omega
      refine z_iload hC dX2_choose_6 rfl ?_
      refine z_iload_n hC dX2_choose_8 rfl ?_
      refine z_icmp_ge hC 106 dX2_choose_9 (by decide) (by omega) (by omega) (fun c_2 => ?_) (fun c_2 => ?_)
      · exfalso; omega
      · refine z_iload_n hC dX2_choose_12 rfl ?_
        refine z_istore hC dX2_choose_13 (by decide) rfl ?_
        have LOOP2 : ∀ (r2 n2 : Nat), n2 + r2 = m → ∀ (μ2 : zM) (y : Int), y = c0 + (n2 : Int) → zF2 μ b μ2 → μ2 b 9 = (sRow d x c0 n2 (sAll d k0 c0 m n (0, μ b 9, μ b 10, μ b 11))).2.1 → μ2 b 10 = (sRow d x c0 n2 (sAll d k0 c0 m n (0, μ b 9, μ b 10, μ b 11))).2.2.1 → μ2 b 11 = (sRow d x c0 n2 (sAll d k0 c0 m n (0, μ b 9, μ b 10, μ b 11))).2.2.2 → Z Γ (cω G ca ad) μ2 15 [(7, .int (iZ y)), (5, .int (iZ (sRow d x c0 n2 (sAll d k0 c0 m n (0, μ b 9, μ b 10, μ b 11))).1)), (6, .int (iZ x)), (0, .ref (ad b)), (2, .int (iZ k1)), (3, .int (iZ c0)), (4, .int (iZ c1))] [] := by
          intro r2
          induction r2 with
          | zero =>
            intro n2 hn2 μ2 y hy hF2 hr9 hr10 hr11
            have hd2 : vw μ2 b = d := by rw [vw_f2 hF2]; exact hd
            refine z_iload hC dX2_choose_15 rfl ?_
            refine z_iload hC dX2_choose_17 rfl ?_
            refine z_icmp_ge hC 100 dX2_choose_19 (by decide) (by omega) (by omega) (fun c_3 => ?_) (fun c_3 => ?_)
            · refine z_iinc hC dX2_choose_100 rfl (by decide) rfl ?_
              refine z_goto hC 6 dX2_choose_103 (by decide) ?_
              obtain rfl : n2 = m := by omega
              have eA : (sAll d k0 c0 n2 (n + 1) (0, μ b 9, μ b 10, μ b 11)) = (sRow d x c0 n2 (sAll d k0 c0 n2 n (0, μ b 9, μ b 10, μ b 11))) := by rw [hx]; rfl
              have K := ih (n + 1) (by omega) _ (x + 1) (by omega) hF2 (by rw [eA]; exact hr9) (by rw [eA]; exact hr10) (by rw [eA]; exact hr11)
              rw [eA] at K
              refine z_weak (L' := [(6, .int (iZ (x + 1))), (5, .int (iZ (sRow d x c0 n2 (sAll d k0 c0 n2 n (0, μ b 9, μ b 10, μ b 11))).1)), (0, .ref (ad b)), (2, .int (iZ k1)), (3, .int (iZ c0)), (4, .int (iZ c1))]) ⟨rfl, rfl, rfl, rfl, rfl, rfl, trivial⟩ ?_
              exact K
            · exfalso; omega
          | succ r2 ih2 =>
            intro n2 hn2 μ2 y hy hF2 hr9 hr10 hr11
            have hd2 : vw μ2 b = d := by rw [vw_f2 hF2]; exact hd
            obtain ⟨hq0, hq1, hq2, hq3, hq4, hq5, hq6⟩ := hB4 y (by omega)
            have hcb := sCould_b d x y
            have heb : -300000 ≤ sEarn d x y (sEnd d x).1 (sEnd d x).2.1 ∧ sEarn d x y (sEnd d x).1 (sEnd d x).2.1 ≤ 9801 := sEa_b hB hkx (by omega) (hG x hkx)
            have h01 := sRow_01 (d := d) (k := x) (c := c0) (sAll_01 (d := d) (k := k0) (c := c0) (m := m) (q := (0, μ b 9, μ b 10, μ b 11)) (Or.inl rfl) n) n2
            have hqb := sRow_b (c := c0) hB hkx hc0 (hG x hkx) (sAll_b (k := k0) (c := c0) (m := m) (q := (0, μ b 9, μ b 10, μ b 11)) hB hk0 hc0 (by omega) hG (Or.inr rfl) n (by omega)) n2 (by omega)
            refine z_iload hC dX2_choose_15 rfl ?_
            refine z_iload hC dX2_choose_17 rfl ?_
            refine z_icmp_ge hC 100 dX2_choose_19 (by decide) (by omega) (by omega) (fun c_4 => ?_) (fun c_4 => ?_)
            · exfalso; omega
            · refine z_aload_n hC dX2_choose_22 rfl ?_
              refine z_get hC iA_X2 rfl 3 (by decide) qF_X2_26 rfl dX2_choose_23 (cl_desk hb) (cd_desk hb) rfl ?_
              refine z_iload hC dX2_choose_26 rfl ?_
              refine z_aald hC dX2_choose_28 3 rfl (cl_cargoes hb) (fun _ i => b + 16 + i) (cd_cargoes hb) (by omega) (by omega) (by decide) ?_
              refine z_get hC iA_X0 rfl 6 (by decide) qF_X2_119 rfl dX2_choose_29 (cl_cargo hb (by omega)) (cd_cargo hb (by omega)) rfl ?_
              refine z_top (b := d (16 + y) 6) ((vw_cargo (by omega) (by omega)).symm.trans (congrFun (congrFun hd2 _) _)) ?_
              refine z_if_ne hC 94 dX2_choose_32 (by decide) (by omega) (fun c_5 => ?_) (fun c_5 => ?_)
              · refine z_iinc hC dX2_choose_94 rfl (by decide) rfl ?_
                refine z_goto hC 15 dX2_choose_97 (by decide) ?_
                have e9 : sRow d x c0 (n2 + 1) (sAll d k0 c0 m n (0, μ b 9, μ b 10, μ b 11)) = (sRow d x c0 n2 (sAll d k0 c0 m n (0, μ b 9, μ b 10, μ b 11))) := by show sStep d x (c0 + (n2 : Int)) _ = _; rw [← hy]; exact sStep_n (by unfold sEa; omega)
                have K := ih2 (n2 + 1) (by omega) μ2 (y + 1) (by omega) (hF2) (by rw [e9]; exact hr9) (by rw [e9]; exact hr10) (by rw [e9]; exact hr11)
                rw [e9] at K
                refine z_weak (L' := [(7, .int (iZ (y + 1))), (5, .int (iZ (sRow d x c0 n2 (sAll d k0 c0 m n (0, μ b 9, μ b 10, μ b 11))).1)), (6, .int (iZ x)), (0, .ref (ad b)), (2, .int (iZ k1)), (3, .int (iZ c0)), (4, .int (iZ c1))]) ⟨rfl, rfl, rfl, rfl, rfl, rfl, rfl, trivial⟩ ?_
                exact K
              · refine z_aload_n hC dX2_choose_35 rfl ?_
                refine z_iload hC dX2_choose_36 rfl ?_
                refine z_iload hC dX2_choose_38 rfl ?_
                refine z_callV hC [.int (iZ x), .int (iZ y)] 2 rfl dX2_choose_40 (fun l => m_X2_hindrance l G ca ad _ μ2 b hb d hd2 x y hB (by omega) (by omega) (hG _ (by omega))) qM_X2_122 qI_X2_hindrance qS_X2_hindrance qi_X2 qC_X2_hindrance (by decide +kernel) (by decide) (by decide) (cl_desk hb) (cd_desk hb) rfl (Nat.le_of_ble_eq_true rfl) (zk_int (fun μ6 hμ6 => ?_)) rfl
                obtain ⟨hμ6f, hμ60, hμ61, hμ62, hμ63, hμ64, hμ65, hμ66, hμ67⟩ := id hμ6
                have hd7 : vw μ6 b = d := by rw [vw_fr5 hμ6f]; exact hd2
                refine z_if_eq hC 49 dX2_choose_43 (by decide) (by omega) (fun c_8 => ?_) (fun c_8 => ?_)
                · refine z_iload hC dX2_choose_49 rfl ?_
                  refine z_if_eq hC 68 dX2_choose_51 (by decide) (by omega) (fun c_9 => ?_) (fun c_9 => ?_)
                  · refine z_iconst hC dX2_choose_68 ?_
                    refine z_istore hC dX2_choose_69 (by decide) rfl ?_
                    refine z_aload_n hC dX2_choose_71 rfl ?_
                    refine z_iload hC dX2_choose_72 rfl ?_
                    refine z_put hC iA_X2 rfl tyX2 tyX2_ok nmX2 9 (by decide) rfl rfl 9 rfl qF_X2_207 rfl dX2_choose_74 (cl_desk hb) (cd_desk hb) (fun _ => rfl) (fun _ => Nat.le_of_ble_eq_true rfl) ?_
                    refine z_nm (fun μ10 hμ10 => ?_)
                    have hd11 : vw μ10 b = d := by rw [hμ10, vw_ch (by omega)]; exact hd7
                    refine z_aload_n hC dX2_choose_77 rfl ?_
                    refine z_iload hC dX2_choose_78 rfl ?_
                    refine z_put hC iA_X2 rfl tyX2 tyX2_ok nmX2 10 (by decide) rfl rfl 10 rfl qF_X2_210 rfl dX2_choose_80 (cl_desk hb) (cd_desk hb) (fun _ => rfl) (fun _ => Nat.le_of_ble_eq_true rfl) ?_
                    refine z_nm (fun μ12 hμ12 => ?_)
                    have hd13 : vw μ12 b = d := by rw [hμ12, vw_ch (by omega)]; exact hd11
                    refine z_aload_n hC dX2_choose_83 rfl ?_
                    refine z_aload_n hC dX2_choose_84 rfl ?_
                    refine z_get hC iA_X2 rfl 8 (by decide) qF_X2_33 rfl dX2_choose_85 (cl_desk hb) (cd_desk hb) rfl ?_
                    refine z_get hC iA_X1 rfl 5 (by decide) qF_X2_197 rfl dX2_choose_88 (cl_course hb) (cd_course hb) rfl ?_
                    refine z_top (b := sEarn d x y (sEnd d x).1 (sEnd d x).2.1) (by rw [hμ12, zup_n (by omega), hμ10, zup_n (by omega), hμ65]) ?_
                    refine z_put hC iA_X2 rfl tyX2 tyX2_ok nmX2 11 (by decide) rfl rfl 11 rfl qF_X2_204 rfl dX2_choose_91 (cl_desk hb) (cd_desk hb) (fun _ => rfl) (fun _ => Nat.le_of_ble_eq_true rfl) ?_
                    refine z_nm (fun μ14 hμ14 => ?_)
                    have hd15 : vw μ14 b = d := by rw [hμ14, vw_ch (by omega)]; exact hd13
                    refine z_iinc hC dX2_choose_94 rfl (by decide) rfl ?_
                    refine z_goto hC 15 dX2_choose_97 (by decide) ?_
                    have hFn : zF2 μ b μ14 := by rw [hμ14, hμ12, hμ10]; exact zF2_up (by omega) (zF2_up (by omega) (zF2_up (by omega) (zF2_co hF2 hμ6f)))
                    have e9 : sRow d x c0 (n2 + 1) (sAll d k0 c0 m n (0, μ b 9, μ b 10, μ b 11)) = (1, x, y, sEa d x y) := by show sStep d x (c0 + (n2 : Int)) _ = _; rw [← hy]; exact sStep_p (by unfold sEa; omega)
                    have K := ih2 (n2 + 1) (by omega) μ14 (y + 1) (by omega) hFn (by rw [e9, hμ14, zup_n (by omega), hμ12, zup_n (by omega), hμ10, zup_s]) (by rw [e9, hμ14, zup_n (by omega), hμ12, zup_s]) (by rw [e9, hμ14, zup_s]; rfl)
                    rw [e9] at K
                    dsimp only at K
                    refine z_weak (L' := [(7, .int (iZ (y + 1))), (5, .int (iZ 1)), (6, .int (iZ x)), (0, .ref (ad b)), (2, .int (iZ k1)), (3, .int (iZ c0)), (4, .int (iZ c1))]) ⟨rfl, rfl, rfl, rfl, rfl, rfl, rfl, trivial⟩ ?_
                    exact K
                  · refine z_aload_n hC dX2_choose_54 rfl ?_
                    refine z_get hC iA_X2 rfl 8 (by decide) qF_X2_33 rfl dX2_choose_55 (cl_desk hb) (cd_desk hb) rfl ?_
                    refine z_get hC iA_X1 rfl 5 (by decide) qF_X2_197 rfl dX2_choose_58 (cl_course hb) (cd_course hb) rfl ?_
                    refine z_top (b := sEarn d x y (sEnd d x).1 (sEnd d x).2.1) (by rw [hμ65]) ?_
                    refine z_aload_n hC dX2_choose_61 rfl ?_
                    refine z_get hC iA_X2 rfl 11 (by decide) qF_X2_204 rfl dX2_choose_62 (cl_desk hb) (cd_desk hb) rfl ?_
                    refine z_top (b := (sRow d x c0 n2 (sAll d k0 c0 m n (0, μ b 9, μ b 10, μ b 11))).2.2.2) (by rw [hμ6f b (by omega), hr11]) ?_
                    refine z_icmp_le hC 94 dX2_choose_65 (by decide) (by omega) (by omega) (fun c_16 => ?_) (fun c_16 => ?_)
                    · refine z_iinc hC dX2_choose_94 rfl (by decide) rfl ?_
                      refine z_goto hC 15 dX2_choose_97 (by decide) ?_
                      have e9 : sRow d x c0 (n2 + 1) (sAll d k0 c0 m n (0, μ b 9, μ b 10, μ b 11)) = (sRow d x c0 n2 (sAll d k0 c0 m n (0, μ b 9, μ b 10, μ b 11))) := by show sStep d x (c0 + (n2 : Int)) _ = _; rw [← hy]; exact sStep_n (by unfold sEa; omega)
                      have K := ih2 (n2 + 1) (by omega) μ6 (y + 1) (by omega) (zF2_co hF2 hμ6f) (by rw [e9, hμ6f b (by omega)]; exact hr9) (by rw [e9, hμ6f b (by omega)]; exact hr10) (by rw [e9, hμ6f b (by omega)]; exact hr11)
                      rw [e9] at K
                      refine z_weak (L' := [(7, .int (iZ (y + 1))), (5, .int (iZ (sRow d x c0 n2 (sAll d k0 c0 m n (0, μ b 9, μ b 10, μ b 11))).1)), (6, .int (iZ x)), (0, .ref (ad b)), (2, .int (iZ k1)), (3, .int (iZ c0)), (4, .int (iZ c1))]) ⟨rfl, rfl, rfl, rfl, rfl, rfl, rfl, trivial⟩ ?_
                      exact K
                    · refine z_iconst hC dX2_choose_68 ?_
                      refine z_istore hC dX2_choose_69 (by decide) rfl ?_
                      refine z_aload_n hC dX2_choose_71 rfl ?_
                      refine z_iload hC dX2_choose_72 rfl ?_
                      refine z_put hC iA_X2 rfl tyX2 tyX2_ok nmX2 9 (by decide) rfl rfl 9 rfl qF_X2_207 rfl dX2_choose_74 (cl_desk hb) (cd_desk hb) (fun _ => rfl) (fun _ => Nat.le_of_ble_eq_true rfl) ?_
                      refine z_nm (fun μ17 hμ17 => ?_)
                      have hd18 : vw μ17 b = d := by rw [hμ17, vw_ch (by omega)]; exact hd7
                      refine z_aload_n hC dX2_choose_77 rfl ?_
                      refine z_iload hC dX2_choose_78 rfl ?_
                      refine z_put hC iA_X2 rfl tyX2 tyX2_ok nmX2 10 (by decide) rfl rfl 10 rfl qF_X2_210 rfl dX2_choose_80 (cl_desk hb) (cd_desk hb) (fun _ => rfl) (fun _ => Nat.le_of_ble_eq_true rfl) ?_
                      refine z_nm (fun μ19 hμ19 => ?_)
                      have hd20 : vw μ19 b = d := by rw [hμ19, vw_ch (by omega)]; exact hd18
                      refine z_aload_n hC dX2_choose_83 rfl ?_
                      refine z_aload_n hC dX2_choose_84 rfl ?_
                      refine z_get hC iA_X2 rfl 8 (by decide) qF_X2_33 rfl dX2_choose_85 (cl_desk hb) (cd_desk hb) rfl ?_
                      refine z_get hC iA_X1 rfl 5 (by decide) qF_X2_197 rfl dX2_choose_88 (cl_course hb) (cd_course hb) rfl ?_
                      refine z_top (b := sEarn d x y (sEnd d x).1 (sEnd d x).2.1) (by rw [hμ19, zup_n (by omega), hμ17, zup_n (by omega), hμ65]) ?_
                      refine z_put hC iA_X2 rfl tyX2 tyX2_ok nmX2 11 (by decide) rfl rfl 11 rfl qF_X2_204 rfl dX2_choose_91 (cl_desk hb) (cd_desk hb) (fun _ => rfl) (fun _ => Nat.le_of_ble_eq_true rfl) ?_
                      refine z_nm (fun μ21 hμ21 => ?_)
                      have hd22 : vw μ21 b = d := by rw [hμ21, vw_ch (by omega)]; exact hd20
                      refine z_iinc hC dX2_choose_94 rfl (by decide) rfl ?_
                      refine z_goto hC 15 dX2_choose_97 (by decide) ?_
                      have hFn : zF2 μ b μ21 := by rw [hμ21, hμ19, hμ17]; exact zF2_up (by omega) (zF2_up (by omega) (zF2_up (by omega) (zF2_co hF2 hμ6f)))
                      have e9 : sRow d x c0 (n2 + 1) (sAll d k0 c0 m n (0, μ b 9, μ b 10, μ b 11)) = (1, x, y, sEa d x y) := by show sStep d x (c0 + (n2 : Int)) _ = _; rw [← hy]; exact sStep_p (by unfold sEa; omega)
                      have K := ih2 (n2 + 1) (by omega) μ21 (y + 1) (by omega) hFn (by rw [e9, hμ21, zup_n (by omega), hμ19, zup_n (by omega), hμ17, zup_s]) (by rw [e9, hμ21, zup_n (by omega), hμ19, zup_s]) (by rw [e9, hμ21, zup_s]; rfl)
                      rw [e9] at K
                      dsimp only at K
                      refine z_weak (L' := [(7, .int (iZ (y + 1))), (5, .int (iZ 1)), (6, .int (iZ x)), (0, .ref (ad b)), (2, .int (iZ k1)), (3, .int (iZ c0)), (4, .int (iZ c1))]) ⟨rfl, rfl, rfl, rfl, rfl, rfl, rfl, trivial⟩ ?_
                      exact K
                · refine z_goto hC 94 dX2_choose_46 (by decide) ?_
                  refine z_iinc hC dX2_choose_94 rfl (by decide) rfl ?_
                  refine z_goto hC 15 dX2_choose_97 (by decide) ?_
                  have e9 : sRow d x c0 (n2 + 1) (sAll d k0 c0 m n (0, μ b 9, μ b 10, μ b 11)) = (sRow d x c0 n2 (sAll d k0 c0 m n (0, μ b 9, μ b 10, μ b 11))) := by show sStep d x (c0 + (n2 : Int)) _ = _; rw [← hy]; exact sStep_n (by unfold sEa; omega)
                  have K := ih2 (n2 + 1) (by omega) μ6 (y + 1) (by omega) (zF2_co hF2 hμ6f) (by rw [e9, hμ6f b (by omega)]; exact hr9) (by rw [e9, hμ6f b (by omega)]; exact hr10) (by rw [e9, hμ6f b (by omega)]; exact hr11)
                  rw [e9] at K
                  refine z_weak (L' := [(7, .int (iZ (y + 1))), (5, .int (iZ (sRow d x c0 n2 (sAll d k0 c0 m n (0, μ b 9, μ b 10, μ b 11))).1)), (6, .int (iZ x)), (0, .ref (ad b)), (2, .int (iZ k1)), (3, .int (iZ c0)), (4, .int (iZ c1))]) ⟨rfl, rfl, rfl, rfl, rfl, rfl, rfl, trivial⟩ ?_
                  exact K
        refine z_weak (L' := [(7, .int (iZ c0)), (5, .int (iZ (sRow d x c0 0 (sAll d k0 c0 m n (0, μ b 9, μ b 10, μ b 11))).1)), (6, .int (iZ x)), (0, .ref (ad b)), (2, .int (iZ k1)), (3, .int (iZ c0)), (4, .int (iZ c1))]) ⟨rfl, rfl, rfl, rfl, rfl, rfl, rfl, trivial⟩ ?_
        exact LOOP2 m 0 (by omega) _ _ (by omega) hF1 hp9 hp10 hp11
  refine z_weak (L' := [(6, .int (iZ k0)), (5, .int (iZ (sAll d k0 c0 m 0 (0, μ b 9, μ b 10, μ b 11)).1)), (0, .ref (ad b)), (2, .int (iZ k1)), (3, .int (iZ c0)), (4, .int (iZ c1))]) ⟨rfl, rfl, rfl, rfl, rfl, rfl, trivial⟩ ?_
  exact LOOP nk 0 (by omega) _ _ (by omega) (fun _ _ _ _ => rfl) rfl rfl rfl

set_option maxHeartbeats 4000000 in
set_option maxRecDepth 100000 in
/-- openCargoes() -/
theorem m_X2_openCargoes (l : Launch) (G : va_G) (ca : Nat → ClassId) (ad : Int → Nat) (A : Nat → Prop) (μ : zM) (b : Int) (hb : zb b) (d : zM) (hd : vw μ b = d) (N : Nat) (hNN : (N : Int) = d 0 5) (hB : bD d) : zMet l (cω G ca ad) A yX2_openCargoes cX2_openCargoes 3 (some .int) 0 0 [.ref (ad b)] μ (zpI (.int (sOpen d N)) (fun m => m = μ)) := by
  refine zMet_of (by decide) (Nat.le_of_ble_eq_true rfl) (fun Γ hC => ?_)
  show Z Γ _ μ 0 [(0, .ref (ad b))] []
  obtain ⟨hN, hP, hB3, hB4⟩ := id hB
  obtain ⟨hN1, hN2⟩ := id hN
  refine z_iconst hC dX2_openCargoes_0 ?_
  refine z_istore_n hC dX2_openCargoes_1 (by decide) rfl ?_
  refine z_iconst hC dX2_openCargoes_2 ?_
  refine z_istore_n hC dX2_openCargoes_3 (by decide) rfl ?_
  have LOOP : ∀ (r n : Nat), n + r = N → True → Z Γ (cω G ca ad) μ 4 [(2, .int (iZ (n : Int))), (1, .int (sOpen d n)), (0, .ref (ad b))] [] := by
    intro r
    induction r with
    | zero =>
      intro n hn _
      refine z_iload_n hC dX2_openCargoes_4 rfl ?_
      refine z_aload_n hC dX2_openCargoes_5 rfl ?_
      refine z_get hC iA_X2 rfl 5 (by decide) qF_X2_56 rfl dX2_openCargoes_6 (cl_desk hb) (cd_desk hb) rfl ?_
      refine z_top (b := d 0 5) ((vw_Cn).symm.trans (congrFun (congrFun hd _) _)) ?_
      refine z_icmp_ge hC 36 dX2_openCargoes_9 (by decide) (by omega) (by omega) (fun c_1 => ?_) (fun c_1 => ?_)
      · refine z_iload_n hC dX2_openCargoes_36 rfl ?_
        obtain rfl : n = N := by omega
        exact z_iret hC dX2_openCargoes_37 ⟨rfl, rfl⟩
      · exfalso; omega
    | succ r ih =>
      intro n hn _
      have hn9 : (n : Int) < d 0 5 := by omega
      obtain ⟨hc0, hc1, hc2, hc3, hc4, hc5, hc6⟩ := hB4 (n : Int) (by omega)
      refine z_iload_n hC dX2_openCargoes_4 rfl ?_
      refine z_aload_n hC dX2_openCargoes_5 rfl ?_
      refine z_get hC iA_X2 rfl 5 (by decide) qF_X2_56 rfl dX2_openCargoes_6 (cl_desk hb) (cd_desk hb) rfl ?_
      refine z_top (b := d 0 5) ((vw_Cn).symm.trans (congrFun (congrFun hd _) _)) ?_
      refine z_icmp_ge hC 36 dX2_openCargoes_9 (by decide) (by omega) (by omega) (fun c_2 => ?_) (fun c_2 => ?_)
      · exfalso; omega
      · refine z_aload_n hC dX2_openCargoes_12 rfl ?_
        refine z_get hC iA_X2 rfl 3 (by decide) qF_X2_26 rfl dX2_openCargoes_13 (cl_desk hb) (cd_desk hb) rfl ?_
        refine z_iload_n hC dX2_openCargoes_16 rfl ?_
        refine z_aald hC dX2_openCargoes_17 3 rfl (cl_cargoes hb) (fun _ i => b + 16 + i) (cd_cargoes hb) (by omega) (by omega) (by decide) ?_
        refine z_get hC iA_X0 rfl 6 (by decide) qF_X2_119 rfl dX2_openCargoes_18 (cl_cargo hb (by omega)) (cd_cargo hb (by omega)) rfl ?_
        refine z_top (b := d (16 + (n : Int)) 6) ((vw_cargo (by omega) (by omega)).symm.trans (congrFun (congrFun hd _) _)) ?_
        refine z_if_ne hC 30 dX2_openCargoes_21 (by decide) (by omega) (fun c_3 => ?_) (fun c_3 => ?_)
        · refine z_iinc hC dX2_openCargoes_30 rfl (by decide) rfl ?_
          refine z_goto hC 4 dX2_openCargoes_33 (by decide) ?_
          have e9 : sOpen d (n + 1) = sOpen d n := by show (if _ then _ else _) = _; rw [if_neg (by omega)]
          have K := ih (n + 1) (by omega) trivial
          rw [e9] at K
          refine z_weak (L' := [(2, .int (iZ ((n + 1 : Nat) : Int))), (1, .int (sOpen d n)), (0, .ref (ad b))]) ⟨rfl, rfl, rfl, trivial⟩ ?_
          exact K
        · refine z_iload_n hC dX2_openCargoes_24 rfl ?_
          refine z_iconst hC dX2_openCargoes_25 ?_
          refine z_iload_n hC dX2_openCargoes_26 rfl ?_
          refine z_ishl hC dX2_openCargoes_27 ?_
          refine z_ior hC dX2_openCargoes_28 ?_
          refine z_istore_n hC dX2_openCargoes_29 (by decide) rfl ?_
          refine z_iinc hC dX2_openCargoes_30 rfl (by decide) rfl ?_
          refine z_goto hC 4 dX2_openCargoes_33 (by decide) ?_
          have e9 : sOpen d (n + 1) = (sOpen d n) ||| ((iZ 1 <<< (iZ (n : Int) &&& 31))) := by show (if _ then _ else _) = _; rw [if_pos (by omega)]
          have K := ih (n + 1) (by omega) trivial
          rw [e9] at K
          refine z_weak (L' := [(2, .int (iZ ((n + 1 : Nat) : Int))), (1, .int ((sOpen d n) ||| ((iZ 1 <<< (iZ (n : Int) &&& 31))))), (0, .ref (ad b))]) ⟨rfl, rfl, rfl, trivial⟩ ?_
          exact K
  refine z_weak (L' := [(2, .int (iZ ((0 : Nat) : Int))), (1, .int (sOpen d 0)), (0, .ref (ad b))]) ⟨rfl, rfl, rfl, trivial⟩ ?_
  exact LOOP N 0 (by omega) trivial

set_option maxHeartbeats 4000000 in
set_option maxRecDepth 100000 in
/-- pairOf(c) -/
theorem m_X2_pairOf (l : Launch) (G : va_G) (ca : Nat → ClassId) (ad : Int → Nat) (A : Nat → Prop) (μ : zM) (b : Int) (hb : zb b) (d : zM) (hd : vw μ b = d) (c : Int) (hB : bD d) (hc : 0 ≤ c ∧ c < d 0 5) : zMet l (cω G ca ad) A yX2_pairOf cX2_pairOf 2 (some .long) 1 21 [.ref (ad b), .int (iZ c)] μ (zpI (.long (sPair d c)) (fun m => m = μ)) := by
  refine zMet_of (by decide) (Nat.le_of_ble_eq_true rfl) (fun Γ hC => ?_)
  show Z Γ _ μ 0 [(0, .ref (ad b)), (1, .int (iZ c))] []
  obtain ⟨hN, hP, hB3, hB4⟩ := id hB
  obtain ⟨hN1, hN2⟩ := id hN
  refine z_aload_n hC dX2_pairOf_0 rfl ?_
  refine z_iload_n hC dX2_pairOf_1 rfl ?_
  have hN1 : μ b 5 = d 0 5 := by rw [← hd, vw_Cn]
  refine z_callV hC [.int (iZ c)] 1 rfl dX2_pairOf_2 (fun l => m_X2_isCargo l G ca ad _ μ b hb c (by omega) (by omega)) qM_X2_116 qI_X2_isCargo qS_X2_isCargo qi_X2 qC_X2_isCargo (by decide +kernel) (by decide) (by decide) (cl_desk hb) (cd_desk hb) rfl (Nat.le_of_ble_eq_true rfl) (zk_pure ?_) rfl
  rw [hN1]
  refine z_ifb_eq hC 35 dX2_pairOf_5 (by decide) (fun c_2 => ?_) (fun c_2 => ?_)
  · exfalso; omega
  · refine z_lconst hC dX2_pairOf_8 rfl ?_
    refine z_bipush hC dX2_pairOf_9 (by decide) ?_
    refine z_aload_n hC dX2_pairOf_11 rfl ?_
    refine z_get hC iA_X2 rfl 3 (by decide) qF_X2_26 rfl dX2_pairOf_12 (cl_desk hb) (cd_desk hb) rfl ?_
    refine z_iload_n hC dX2_pairOf_15 rfl ?_
    refine z_aald hC dX2_pairOf_16 3 rfl (cl_cargoes hb) (fun _ i => b + 16 + i) (cd_cargoes hb) (by omega) (by omega) (by decide) ?_
    refine z_get hC iA_X0 rfl 1 (by decide) qF_X2_98 rfl dX2_pairOf_17 (cl_cargo hb (by omega)) (cd_cargo hb (by omega)) rfl ?_
    refine z_top (b := d (16 + c) 1) ((vw_cargo (by omega) (by omega)).symm.trans (congrFun (congrFun hd _) _)) ?_
    refine z_imul hC dX2_pairOf_20 ?_
    refine z_aload_n hC dX2_pairOf_21 rfl ?_
    refine z_get hC iA_X2 rfl 3 (by decide) qF_X2_26 rfl dX2_pairOf_22 (cl_desk hb) (cd_desk hb) rfl ?_
    refine z_iload_n hC dX2_pairOf_25 rfl ?_
    refine z_aald hC dX2_pairOf_26 3 rfl (cl_cargoes hb) (fun _ i => b + 16 + i) (cd_cargoes hb) (by omega) (by omega) (by decide) ?_
    refine z_get hC iA_X0 rfl 2 (by decide) qF_X2_101 rfl dX2_pairOf_27 (cl_cargo hb (by omega)) (cd_cargo hb (by omega)) rfl ?_
    refine z_top (b := d (16 + c) 2) ((vw_cargo (by omega) (by omega)).symm.trans (congrFun (congrFun hd _) _)) ?_
    refine z_iadd hC dX2_pairOf_30 ?_
    refine z_lshl hC dX2_pairOf_31 rfl ?_
    refine z_goto hC 36 dX2_pairOf_32 (by decide) ?_
    exact z_lret hC dX2_pairOf_36 ⟨rfl, rfl⟩

set_option maxHeartbeats 4000000 in
set_option maxRecDepth 100000 in
/-- chooseGainful() -/
theorem m_X2_chooseGainful (l : Launch) (G : va_G) (ca : Nat → ClassId) (ad : Int → Nat) (A : Nat → Prop) (μ : zM) (b : Int) (hb : zb b) (d : zM) (hd : vw μ b = d) (nk m : Nat) (hB : bD d) (hG : ∀ k, 0 ≤ k ∧ k < d 0 4 → zGo d k (sNum d k)) (hnk : (nk : Int) = d 0 4) (hm : (m : Int) = d 0 5) : zMet l (cω G ca ad) A yX2_chooseGainful cX2_chooseGainful 1 (some .boolean) 5 139 [.ref (ad b)] μ (zpI (.int (iZ (zB ((sAll d 0 0 m nk (0, μ b 9, μ b 10, μ b 11)).1 = 1 ∧ 0 < (sAll d 0 0 m nk (0, μ b 9, μ b 10, μ b 11)).2.2.2)))) (fun μ' => zF2 μ b μ' ∧ μ' b 9 = (sAll d 0 0 m nk (0, μ b 9, μ b 10, μ b 11)).2.1 ∧ μ' b 10 = (sAll d 0 0 m nk (0, μ b 9, μ b 10, μ b 11)).2.2.1 ∧ μ' b 11 = (sAll d 0 0 m nk (0, μ b 9, μ b 10, μ b 11)).2.2.2)) := by
  refine zMet_of (by decide) (Nat.le_of_ble_eq_true rfl) (fun Γ hC => ?_)
  show Z Γ _ μ 0 [(0, .ref (ad b))] []
  obtain ⟨hN, hP, hB3, hB4⟩ := id hB
  obtain ⟨hN1, hN2⟩ := id hN
  have hqb := sAll_b (k := 0) (c := 0) (m := m) (q := (0, μ b 9, μ b 10, μ b 11)) hB (by omega) (by omega) (by omega) hG (Or.inr rfl) nk (by omega)
  refine z_aload_n hC dX2_chooseGainful_0 rfl ?_
  refine z_iconst hC dX2_chooseGainful_1 ?_
  refine z_aload_n hC dX2_chooseGainful_2 rfl ?_
  refine z_get hC iA_X2 rfl 4 (by decide) qF_X2_52 rfl dX2_chooseGainful_3 (cl_desk hb) (cd_desk hb) rfl ?_
  refine z_top (b := d 0 4) ((vw_S).symm.trans (congrFun (congrFun hd _) _)) ?_
  refine z_iconst hC dX2_chooseGainful_6 ?_
  refine z_aload_n hC dX2_chooseGainful_7 rfl ?_
  refine z_get hC iA_X2 rfl 5 (by decide) qF_X2_56 rfl dX2_chooseGainful_8 (cl_desk hb) (cd_desk hb) rfl ?_
  refine z_top (b := d 0 5) ((vw_Cn).symm.trans (congrFun (congrFun hd _) _)) ?_
  refine z_callV hC [.int (iZ 0), .int (iZ (d 0 4)), .int (iZ 0), .int (iZ (d 0 5))] 4 rfl dX2_chooseGainful_11 (fun l => m_X2_choose l G ca ad _ μ b hb d hd 0 (d 0 4) 0 (d 0 5) nk m hB hG (by omega) (by omega) (by omega) (by omega) (by omega) (by omega)) qM_X2_213 qI_X2_choose qS_X2_choose qi_X2 qC_X2_choose (by decide +kernel) (by decide) (by decide) (cl_desk hb) (cd_desk hb) rfl (Nat.le_of_ble_eq_true rfl) (zk_int (fun μ1 hμ1 => ?_)) rfl
  obtain ⟨hμ1f, hμ19, hμ110, hμ111⟩ := id hμ1
  have hd2 : vw μ1 b = d := by rw [vw_f2 hμ1f]; exact hd
  refine z_ifb_eq hC 28 dX2_chooseGainful_14 (by decide) (fun c_3 => ?_) (fun c_3 => ?_)
  · refine z_iconst hC dX2_chooseGainful_28 ?_
    exact z_zret0 hC dX2_chooseGainful_29 ⟨by rw [zB_f (by omega)], hμ1⟩
  · refine z_aload_n hC dX2_chooseGainful_17 rfl ?_
    refine z_get hC iA_X2 rfl 11 (by decide) qF_X2_204 rfl dX2_chooseGainful_18 (cl_desk hb) (cd_desk hb) rfl ?_
    refine z_top (b := (sAll d 0 0 m nk (0, μ b 9, μ b 10, μ b 11)).2.2.2) (by rw [hμ111]) ?_
    refine z_if_le hC 28 dX2_chooseGainful_21 (by decide) (by omega) (fun c_4 => ?_) (fun c_4 => ?_)
    · refine z_iconst hC dX2_chooseGainful_28 ?_
      exact z_zret0 hC dX2_chooseGainful_29 ⟨by rw [zB_f (by omega)], hμ1⟩
    · refine z_iconst hC dX2_chooseGainful_24 ?_
      refine z_goto hC 29 dX2_chooseGainful_25 (by decide) ?_
      exact z_zret1 hC dX2_chooseGainful_29 ⟨by rw [zB_t (by omega)], hμ1⟩
end
section
/-! THE CHANGES: what each answers and what the desk is then -/
def opPort (d : zM) (p x y : Int) : Int × zM := if ¬ ((0 ≤ p ∧ p ≤ 7) ∧ (0 ≤ x ∧ x ≤ 99) ∧ (0 ≤ y ∧ y ≤ 99)) then (-1000001, d) else if 0 < sCnt d 1 (d 0 5).toNat then (-1000002, d) else (100 * d 1 p + d 2 p, zup (zup d 1 p x) 2 p y)
def opShip (d : zM) (z v u p t : Int) : Int × zM := if ¬ ((1 ≤ z ∧ z ≤ 99) ∧ (1 ≤ v ∧ v ≤ 20) ∧ (1 ≤ u ∧ u ≤ 99) ∧ (0 ≤ p ∧ p ≤ 7) ∧ (0 ≤ t ∧ t ≤ 999)) then (-1000001, d) else if 5 ≤ d 0 4 then (-1000003, d) else (d 0 4, zup (zup (zup (zup (zup (zup d (6 + d 0 4) 0 z) (6 + d 0 4) 1 v) (6 + d 0 4) 2 u) (6 + d 0 4) 3 p) (6 + d 0 4) 4 t) 0 4 (d 0 4 + 1))
def opCargo (d : zM) (a l u f t w : Int) : Int × zM := if ¬ ((1 ≤ a ∧ a ≤ 99) ∧ (0 ≤ l ∧ l ≤ 7) ∧ (0 ≤ u ∧ u ≤ 7) ∧ l ≠ u ∧ (0 ≤ f ∧ f ≤ 999) ∧ (f ≤ t ∧ t ≤ 999) ∧ (1 ≤ w ∧ w ≤ 99)) then (-1000001, d) else if 10 ≤ d 0 5 then (-1000003, d) else (d 0 5, zup (zup (zup (zup (zup (zup (zup d (16 + d 0 5) 0 a) (16 + d 0 5) 1 l) (16 + d 0 5) 2 u) (16 + d 0 5) 3 f) (16 + d 0 5) 4 t) (16 + d 0 5) 5 w) 0 5 (d 0 5 + 1))
/-- the cargoes of r fixtures from x on come into the state st -/
def sDrop (k st : Int) : Nat → Int → zM → zM
  | 0, _, d => d
  | r + 1, x, d => sDrop k st r (x + 1) (zup d (16 + d (11 + k) x) 6 st)
def opFix (d : zM) (k c : Int) : Int × zM := if ¬ ((0 ≤ k ∧ k < d 0 4) ∧ (0 ≤ c ∧ c < d 0 5)) then (-1000001, d) else if ¬ (d (16 + c) 6 = 0 ∧ sCould d k c = 0) then (-1000002, d) else (sFree d k c (sEnd d k).1 (sEnd d k).2.1, zup (zup (zup (zup d (11 + k) (d (6 + k) 6) c) (6 + k) 6 (d (6 + k) 6 + 1)) (16 + c) 6 1) (16 + c) 7 k)
def sLater (d : zM) (k n : Int) : zM := zup d (6 + k) 4 (d (6 + k) 4 + n)
def opDelay (d : zM) (k n : Int) : Int × zM := if ¬ ((0 ≤ k ∧ k < d 0 4) ∧ (1 ≤ n ∧ n ≤ 99)) then (-1000001, d) else if 1999 < d (6 + k) 4 + n then (-1000003, d) else
  (d (6 + k) 6 - (sInT (sLater d k n) k : Int), zup (zup (sDrop k 2 (sNum d k - sInT (sLater d k n) k) (sInT (sLater d k n) k : Int) (sLater d k n)) (6 + k) 6 (sInT (sLater d k n) k : Int)) 0 6 (d 0 6 + (d (6 + k) 6 - (sInT (sLater d k n) k : Int))))
/-- what calling a cargo off costs -/
def sPay (d : zM) (c : Int) : Int := (d (16 + c) 0 * d (16 + c) 5 + 10 - 1) / 10
def opOff (d : zM) (k : Int) : Int × zM := if ¬ (0 ≤ k ∧ k < d 0 4) then (-1000001, d) else if d (6 + k) 6 = 0 then (-1000002, d) else
  (sPay d (d (11 + k) (d (6 + k) 6 - 1)), zup (zup (zup (sDrop k 0 1 (d (6 + k) 6 - 1) d) (6 + k) 6 (d (6 + k) 6 - 1)) (6 + k) 5 (d (6 + k) 5 - sPay d (d (11 + k) (d (6 + k) 6 - 1)))) 0 7 (d 0 7 + 1))
def opSettle (d : zM) (k : Int) : Int × zM := if ¬ (0 ≤ k ∧ k < d 0 4) then (-1000001, d) else if d (6 + k) 6 = 0 then (-1000002, d) else
  ((sEnd d k).2.2 + 1000000, zup (sDrop k 2 (sNum d k) 0 (zup (zup (zup d (6 + k) 5 (d (6 + k) 5 + (sEnd d k).2.2)) (6 + k) 3 (sEnd d k).1) (6 + k) 4 (sEnd d k).2.1)) (6 + k) 6 0)
/-- nothing outside the desk b has changed -/
def zFd (μ : zM) (b : Int) (μ' : zM) : Prop := ∀ c, c < b ∨ b + 26 ≤ c → μ' c = μ c
/-- dropping changes no cell but cargoes -/
theorem sDrop_o {k st : Int} : ∀ (r : Nat) (x : Int) (d : zM) (o i : Int), o < 16 → (∀ j : Int, x ≤ j ∧ j < x + (r : Int) → 0 ≤ d (11 + k) j) → k < 5 → sDrop k st r x d o i = d o i := by
  intro r
  induction r with
  | zero => intro x d o i _ _ _; rfl
  | succ r ih =>
    intro x d o i ho h hk
    have h0 := h x (by omega)
    show sDrop k st r (x + 1) (zup d (16 + d (11 + k) x) 6 st) o i = d o i
    rw [ih (x + 1) _ o i ho (fun j hj => by rw [zup_n (by omega)]; exact h j (by omega)) hk, zup_n (by omega)]
theorem bD_later {d : zM} {k n : Int} (hB : bD d) (hk : 0 ≤ k ∧ k < d 0 4) (hn : 1 ≤ n) (h : d (6 + k) 4 + n ≤ 1999) : bD (sLater d k n) := by
  obtain ⟨hN, hP, hS, hC⟩ := hB
  have hN' := hN
  obtain ⟨hN1, hN2⟩ := hN'
  have e : ∀ o i, (o ≠ 6 + k ∨ i ≠ 4) → sLater d k n o i = d o i := fun o i q => zup_n q
  refine ⟨?_, ?_, ?_, ?_⟩
  · unfold bN
    rw [e 0 4 (by omega), e 0 5 (by omega)]
    exact hN
  · intro p hp
    rw [e 1 p (by omega), e 2 p (by omega)]
    exact hP p hp
  · intro k' hk'
    rw [e 0 4 (by omega)] at hk'
    have h9 := hS k' hk'
    unfold bS at h9 ⊢
    rw [e (6 + k') 0 (by omega), e (6 + k') 1 (by omega), e (6 + k') 2 (by omega), e (6 + k') 3 (by omega), e (6 + k') 6 (by omega)]
    by_cases q : k' = k
    · subst q
      have e4 : sLater d k' n (6 + k') 4 = d (6 + k') 4 + n := zup_s
      rw [e4]
      omega
    · rw [e (6 + k') 4 (by omega)]
      exact h9
  · intro c hc
    rw [e 0 5 (by omega)] at hc
    have h9 := hC c hc
    unfold bC at h9 ⊢
    rw [e (16 + c) 0 (by omega), e (16 + c) 1 (by omega), e (16 + c) 2 (by omega), e (16 + c) 3 (by omega), e (16 + c) 4 (by omega), e (16 + c) 5 (by omega), e (16 + c) 6 (by omega)]
    exact h9
theorem sInT_b (d : zM) (k : Int) : sInT d k ≤ sNum d k := by
  have := (sTime_b d k (sNum d k) 0).2
  unfold sInT
  omega
theorem worth_b {d : zM} {c : Int} (hc : bC d c) : 0 ≤ d (16 + c) 0 * d (16 + c) 5 ∧ d (16 + c) 0 * d (16 + c) 5 ≤ 9801 := by
  have h0 := hc.1
  have h5 := hc.2.2.2.2.2.1
  have m1 : d (16 + c) 0 * d (16 + c) 5 ≤ 99 * 99 := Int.mul_le_mul h0.2 h5.2 (by omega) (by omega)
  have m0 : 0 ≤ d (16 + c) 0 * d (16 + c) 5 := Int.mul_nonneg (by omega) (by omega)
  omega
end
section
set_option maxHeartbeats 4000000 in
set_option maxRecDepth 100000 in
/-- opPort d p x y -/
theorem m_X2_movePort (l : Launch) (G : va_G) (ca : Nat → ClassId) (ad : Int → Nat) (A : Nat → Prop) (μ : zM) (b : Int) (hb : zb b) (d : zM) (hd : vw μ b = d) (p x y : Int) (hp : -2147483648 ≤ p ∧ p ≤ 2147483647) (hx : -2147483648 ≤ x ∧ x ≤ 2147483647) (hy : -2147483648 ≤ y ∧ y ≤ 2147483647) (hB : bD d) : zMet l (cω G ca ad) A yX2_movePort cX2_movePort 5 (some .int) 2 42 [.ref (ad b), .int (iZ p), .int (iZ x), .int (iZ y)] μ (zpI (.int (iZ (opPort d p x y).1)) (fun μ' => vw μ' b = (opPort d p x y).2 ∧ zFd μ b μ')) := by
  refine zMet_of (by decide) (Nat.le_of_ble_eq_true rfl) (fun Γ hC => ?_)
  show Z Γ _ μ 0 [(0, .ref (ad b)), (1, .int (iZ p)), (2, .int (iZ x)), (3, .int (iZ y))] []
  obtain ⟨hN, hP, hB3, hB4⟩ := id hB
  obtain ⟨hN1, hN2⟩ := id hN
  have hcn := sCnt_b d 1 (d 0 5).toNat
  refine z_iload_n hC dX2_movePort_0 rfl ?_
  refine z_callSN hC [.int (iZ p)] 1 rfl dX2_movePort_1 (fun l => m_X7_isPort l _ _ _ p (by omega)) (by decide +kernel) qT_X7_isPort qi_X7 qC_X7_isPort (by decide +kernel) (by decide) (by decide) (Nat.le_of_ble_eq_true rfl) (zk_pure ?_) rfl
  refine z_ifb_eq hC 27 dX2_movePort_4 (by decide) (fun c_1 => ?_) (fun c_1 => ?_)
  · refine z_ldc hC (-1000001) qc_X2_73 rfl dX2_movePort_27 ?_
    have e9 : opPort d p x y = ((-1000001), d) := by
      unfold opPort
      rw [if_pos (by omega)]
    exact z_iret hC dX2_movePort_29 ⟨by rw [e9], by rw [e9, hd], fun c9 hc9 => rfl⟩
  · refine z_iload_n hC dX2_movePort_7 rfl ?_
    refine z_iconst hC dX2_movePort_8 ?_
    refine z_bipush hC dX2_movePort_9 (by decide) ?_
    refine z_callSN hC [.int (iZ x), .int (iZ 0), .int (iZ 99)] 3 rfl dX2_movePort_11 (fun l => m_X7_isIn l _ _ _ x 0 99 (by omega) (by omega) (by omega)) (by decide +kernel) qT_X7_isIn qi_X7 qC_X7_isIn (by decide +kernel) (by decide) (by decide) (Nat.le_of_ble_eq_true rfl) (zk_pure ?_) rfl
    refine z_ifb_eq hC 27 dX2_movePort_14 (by decide) (fun c_2 => ?_) (fun c_2 => ?_)
    · refine z_ldc hC (-1000001) qc_X2_73 rfl dX2_movePort_27 ?_
      have e9 : opPort d p x y = ((-1000001), d) := by
        unfold opPort
        rw [if_pos (by omega)]
      exact z_iret hC dX2_movePort_29 ⟨by rw [e9], by rw [e9, hd], fun c9 hc9 => rfl⟩
    · refine z_iload_n hC dX2_movePort_17 rfl ?_
      refine z_iconst hC dX2_movePort_18 ?_
      refine z_bipush hC dX2_movePort_19 (by decide) ?_
      refine z_callSN hC [.int (iZ y), .int (iZ 0), .int (iZ 99)] 3 rfl dX2_movePort_21 (fun l => m_X7_isIn l _ _ _ y 0 99 (by omega) (by omega) (by omega)) (by decide +kernel) qT_X7_isIn qi_X7 qC_X7_isIn (by decide +kernel) (by decide) (by decide) (Nat.le_of_ble_eq_true rfl) (zk_pure ?_) rfl
      refine z_ifb_ne hC 30 dX2_movePort_24 (by decide) (fun c_3 => ?_) (fun c_3 => ?_)
      · refine z_aload_n hC dX2_movePort_30 rfl ?_
        refine z_iconst hC dX2_movePort_31 ?_
        refine z_callV hC [.int (iZ 1)] 1 rfl dX2_movePort_32 (fun l => m_X2_cargoesThatAre l G ca ad _ μ b hb d hd 1 (by omega) (d 0 5).toNat (by omega) hB) qM_X2_74 qI_X2_cargoesThatAre qS_X2_cargoesThatAre qi_X2 qC_X2_cargoesThatAre (by decide +kernel) (by decide) (by decide) (cl_desk hb) (cd_desk hb) rfl (Nat.le_of_ble_eq_true rfl) (zk_pure ?_) rfl
        refine z_if_le hC 41 dX2_movePort_35 (by decide) (by omega) (fun c_4 => ?_) (fun c_4 => ?_)
        · refine z_bipush hC dX2_movePort_41 (by decide) ?_
          refine z_aload_n hC dX2_movePort_43 rfl ?_
          refine z_get hC iA_X2 rfl 0 (by decide) qF_X2_9 rfl dX2_movePort_44 (cl_desk hb) (cd_desk hb) rfl ?_
          refine z_iload_n hC dX2_movePort_47 rfl ?_
          refine z_iald hC dX2_movePort_48 (cl_x hb) (cd_x hb) (by omega) (by omega) (by decide) ?_
          refine z_top (b := d 1 p) ((vw_x (by omega)).symm.trans (congrFun (congrFun hd _) _)) ?_
          refine z_imul hC dX2_movePort_49 ?_
          refine z_aload_n hC dX2_movePort_50 rfl ?_
          refine z_get hC iA_X2 rfl 1 (by decide) qF_X2_15 rfl dX2_movePort_51 (cl_desk hb) (cd_desk hb) rfl ?_
          refine z_iload_n hC dX2_movePort_54 rfl ?_
          refine z_iald hC dX2_movePort_55 (cl_y hb) (cd_y hb) (by omega) (by omega) (by decide) ?_
          refine z_top (b := d 2 p) ((vw_y (by omega)).symm.trans (congrFun (congrFun hd _) _)) ?_
          refine z_iadd hC dX2_movePort_56 ?_
          refine z_istore hC dX2_movePort_57 (by decide) rfl ?_
          refine z_aload_n hC dX2_movePort_59 rfl ?_
          refine z_get hC iA_X2 rfl 0 (by decide) qF_X2_9 rfl dX2_movePort_60 (cl_desk hb) (cd_desk hb) rfl ?_
          refine z_iload_n hC dX2_movePort_63 rfl ?_
          refine z_iload_n hC dX2_movePort_64 rfl ?_
          refine z_iast hC dX2_movePort_65 (cl_x hb) (cd_x hb) (by omega) (by omega) (by decide) ?_
          refine z_nm (fun μ5 hμ5 => ?_)
          obtain ⟨d7, hd7⟩ : ∃ q9 : zM, q9 = zup d 1 p x := ⟨_, rfl⟩
          have hd6 : vw μ5 b = d7 := by rw [hμ5, vw_up (by unfold zrel; omega), hd, hd7]
          refine z_aload_n hC dX2_movePort_66 rfl ?_
          refine z_get hC iA_X2 rfl 1 (by decide) qF_X2_15 rfl dX2_movePort_67 (cl_desk hb) (cd_desk hb) rfl ?_
          refine z_iload_n hC dX2_movePort_70 rfl ?_
          refine z_iload_n hC dX2_movePort_71 rfl ?_
          refine z_iast hC dX2_movePort_72 (cl_y hb) (cd_y hb) (by omega) (by omega) (by decide) ?_
          refine z_nm (fun μ8 hμ8 => ?_)
          obtain ⟨d10, hd10⟩ : ∃ q9 : zM, q9 = zup d7 2 p y := ⟨_, rfl⟩
          have hd9 : vw μ8 b = d10 := by rw [hμ8, vw_up (by unfold zrel; omega), hd6, hd10]
          refine z_iload hC dX2_movePort_73 rfl ?_
          have e9 : opPort d p x y = ((100 * (d 1 p)) + (d 2 p), zup (zup d 1 p x) 2 p y) := by
            unfold opPort
            rw [if_neg (by omega), if_neg (by omega)]
          exact z_iret hC dX2_movePort_75 ⟨by rw [e9], by rw [e9, hd9, hd10, hd7], fun c9 hc9 => by rw [hμ8, zup_o (by omega), hμ5, zup_o (by omega)]⟩
        · refine z_ldc hC (-1000002) qc_X2_78 rfl dX2_movePort_38 ?_
          have e9 : opPort d p x y = ((-1000002), d) := by
            unfold opPort
            rw [if_neg (by omega), if_pos (by omega)]
          exact z_iret hC dX2_movePort_40 ⟨by rw [e9], by rw [e9, hd], fun c9 hc9 => rfl⟩
      · refine z_ldc hC (-1000001) qc_X2_73 rfl dX2_movePort_27 ?_
        have e9 : opPort d p x y = ((-1000001), d) := by
          unfold opPort
          rw [if_pos (by omega)]
        exact z_iret hC dX2_movePort_29 ⟨by rw [e9], by rw [e9, hd], fun c9 hc9 => rfl⟩

set_option maxHeartbeats 4000000 in
set_option maxRecDepth 100000 in
/-- opShip d z v u p t -/
theorem m_X2_addShip (l : Launch) (G : va_G) (ca : Nat → ClassId) (ad : Int → Nat) (A : Nat → Prop) (μ : zM) (b : Int) (hb : zb b) (d : zM) (hd : vw μ b = d) (z v u p t : Int) (hz : -2147483648 ≤ z ∧ z ≤ 2147483647) (hv : -2147483648 ≤ v ∧ v ≤ 2147483647) (hu : -2147483648 ≤ u ∧ u ≤ 2147483647) (hp : -2147483648 ≤ p ∧ p ≤ 2147483647) (ht : -2147483648 ≤ t ∧ t ≤ 2147483647) (hN : bN d) : zMet l (cω G ca ad) A yX2_addShip cX2_addShip 7 (some .int) 2 42 [.ref (ad b), .int (iZ z), .int (iZ v), .int (iZ u), .int (iZ p), .int (iZ t)] μ (zpI (.int (iZ (opShip d z v u p t).1)) (fun μ' => vw μ' b = (opShip d z v u p t).2 ∧ zFd μ b μ')) := by
  refine zMet_of (by decide) (Nat.le_of_ble_eq_true rfl) (fun Γ hC => ?_)
  show Z Γ _ μ 0 [(0, .ref (ad b)), (1, .int (iZ z)), (2, .int (iZ v)), (3, .int (iZ u)), (4, .int (iZ p)), (5, .int (iZ t))] []
  obtain ⟨hN1, hN2⟩ := id hN
  refine z_iload_n hC dX2_addShip_0 rfl ?_
  refine z_iconst hC dX2_addShip_1 ?_
  refine z_bipush hC dX2_addShip_2 (by decide) ?_
  refine z_callSN hC [.int (iZ z), .int (iZ 1), .int (iZ 99)] 3 rfl dX2_addShip_4 (fun l => m_X7_isIn l _ _ _ z 1 99 (by omega) (by omega) (by omega)) (by decide +kernel) qT_X7_isIn qi_X7 qC_X7_isIn (by decide +kernel) (by decide) (by decide) (Nat.le_of_ble_eq_true rfl) (zk_pure ?_) rfl
  refine z_ifb_eq hC 50 dX2_addShip_7 (by decide) (fun c_1 => ?_) (fun c_1 => ?_)
  · refine z_ldc hC (-1000001) qc_X2_73 rfl dX2_addShip_50 ?_
    have e9 : opShip d z v u p t = ((-1000001), d) := by
      unfold opShip
      rw [if_pos (by omega)]
    exact z_iret hC dX2_addShip_52 ⟨by rw [e9], by rw [e9, hd], fun c9 hc9 => rfl⟩
  · refine z_iload_n hC dX2_addShip_10 rfl ?_
    refine z_iconst hC dX2_addShip_11 ?_
    refine z_bipush hC dX2_addShip_12 (by decide) ?_
    refine z_callSN hC [.int (iZ v), .int (iZ 1), .int (iZ 20)] 3 rfl dX2_addShip_14 (fun l => m_X7_isIn l _ _ _ v 1 20 (by omega) (by omega) (by omega)) (by decide +kernel) qT_X7_isIn qi_X7 qC_X7_isIn (by decide +kernel) (by decide) (by decide) (Nat.le_of_ble_eq_true rfl) (zk_pure ?_) rfl
    refine z_ifb_eq hC 50 dX2_addShip_17 (by decide) (fun c_2 => ?_) (fun c_2 => ?_)
    · refine z_ldc hC (-1000001) qc_X2_73 rfl dX2_addShip_50 ?_
      have e9 : opShip d z v u p t = ((-1000001), d) := by
        unfold opShip
        rw [if_pos (by omega)]
      exact z_iret hC dX2_addShip_52 ⟨by rw [e9], by rw [e9, hd], fun c9 hc9 => rfl⟩
    · refine z_iload_n hC dX2_addShip_20 rfl ?_
      refine z_iconst hC dX2_addShip_21 ?_
      refine z_bipush hC dX2_addShip_22 (by decide) ?_
      refine z_callSN hC [.int (iZ u), .int (iZ 1), .int (iZ 99)] 3 rfl dX2_addShip_24 (fun l => m_X7_isIn l _ _ _ u 1 99 (by omega) (by omega) (by omega)) (by decide +kernel) qT_X7_isIn qi_X7 qC_X7_isIn (by decide +kernel) (by decide) (by decide) (Nat.le_of_ble_eq_true rfl) (zk_pure ?_) rfl
      refine z_ifb_eq hC 50 dX2_addShip_27 (by decide) (fun c_3 => ?_) (fun c_3 => ?_)
      · refine z_ldc hC (-1000001) qc_X2_73 rfl dX2_addShip_50 ?_
        have e9 : opShip d z v u p t = ((-1000001), d) := by
          unfold opShip
          rw [if_pos (by omega)]
        exact z_iret hC dX2_addShip_52 ⟨by rw [e9], by rw [e9, hd], fun c9 hc9 => rfl⟩
      · refine z_iload hC dX2_addShip_30 rfl ?_
        refine z_callSN hC [.int (iZ p)] 1 rfl dX2_addShip_32 (fun l => m_X7_isPort l _ _ _ p (by omega)) (by decide +kernel) qT_X7_isPort qi_X7 qC_X7_isPort (by decide +kernel) (by decide) (by decide) (Nat.le_of_ble_eq_true rfl) (zk_pure ?_) rfl
        refine z_ifb_eq hC 50 dX2_addShip_35 (by decide) (fun c_4 => ?_) (fun c_4 => ?_)
        · refine z_ldc hC (-1000001) qc_X2_73 rfl dX2_addShip_50 ?_
          have e9 : opShip d z v u p t = ((-1000001), d) := by
            unfold opShip
            rw [if_pos (by omega)]
          exact z_iret hC dX2_addShip_52 ⟨by rw [e9], by rw [e9, hd], fun c9 hc9 => rfl⟩
        · refine z_iload hC dX2_addShip_38 rfl ?_
          refine z_iconst hC dX2_addShip_40 ?_
          refine z_sipush hC dX2_addShip_41 (by decide) ?_
          refine z_callSN hC [.int (iZ t), .int (iZ 0), .int (iZ 999)] 3 rfl dX2_addShip_44 (fun l => m_X7_isIn l _ _ _ t 0 999 (by omega) (by omega) (by omega)) (by decide +kernel) qT_X7_isIn qi_X7 qC_X7_isIn (by decide +kernel) (by decide) (by decide) (Nat.le_of_ble_eq_true rfl) (zk_pure ?_) rfl
          refine z_ifb_ne hC 53 dX2_addShip_47 (by decide) (fun c_5 => ?_) (fun c_5 => ?_)
          · refine z_aload_n hC dX2_addShip_53 rfl ?_
            refine z_get hC iA_X2 rfl 4 (by decide) qF_X2_52 rfl dX2_addShip_54 (cl_desk hb) (cd_desk hb) rfl ?_
            refine z_top (b := d 0 4) ((vw_S).symm.trans (congrFun (congrFun hd _) _)) ?_
            refine z_iconst hC dX2_addShip_57 ?_
            refine z_icmp_lt hC 64 dX2_addShip_58 (by decide) (by omega) (by omega) (fun c_6 => ?_) (fun c_6 => ?_)
            · refine z_aload_n hC dX2_addShip_64 rfl ?_
              refine z_get hC iA_X2 rfl 2 (by decide) qF_X2_20 rfl dX2_addShip_65 (cl_desk hb) (cd_desk hb) rfl ?_
              refine z_aload_n hC dX2_addShip_68 rfl ?_
              refine z_get hC iA_X2 rfl 4 (by decide) qF_X2_52 rfl dX2_addShip_69 (cl_desk hb) (cd_desk hb) rfl ?_
              refine z_top (b := d 0 4) ((vw_S).symm.trans (congrFun (congrFun hd _) _)) ?_
              refine z_aald hC dX2_addShip_72 2 rfl (cl_ships hb) (fun _ i => b + 6 + i) (cd_ships hb) (by omega) (by omega) (by decide) ?_
              refine z_astore hC dX2_addShip_73 (by decide) rfl ?_
              refine z_aload hC dX2_addShip_75 rfl ?_
              refine z_iload_n hC dX2_addShip_77 rfl ?_
              refine z_put hC iA_X6 rfl tyX6 tyX6_ok nmX6 0 (by decide) rfl rfl 0 rfl qF_X2_80 rfl dX2_addShip_78 (cl_ship hb (by omega)) (cd_ship hb (by omega)) (fun _ => rfl) (fun _ => Nat.le_of_ble_eq_true rfl) ?_
              refine z_nm (fun μ7 hμ7 => ?_)
              obtain ⟨d9, hd9⟩ : ∃ q9 : zM, q9 = zup d (6 + (d 0 4)) 0 z := ⟨_, rfl⟩
              have hd8 : vw μ7 b = d9 := by rw [hμ7, vw_upk (by unfold zrel; omega), hd, hd9]
              refine z_aload hC dX2_addShip_81 rfl ?_
              refine z_iload_n hC dX2_addShip_83 rfl ?_
              refine z_put hC iA_X6 rfl tyX6 tyX6_ok nmX6 1 (by decide) rfl rfl 1 rfl qF_X2_83 rfl dX2_addShip_84 (cl_ship hb (by omega)) (cd_ship hb (by omega)) (fun _ => rfl) (fun _ => Nat.le_of_ble_eq_true rfl) ?_
              refine z_nm (fun μ10 hμ10 => ?_)
              obtain ⟨d12, hd12⟩ : ∃ q9 : zM, q9 = zup d9 (6 + (d 0 4)) 1 v := ⟨_, rfl⟩
              have hd11 : vw μ10 b = d12 := by rw [hμ10, vw_upk (by unfold zrel; omega), hd8, hd12]
              refine z_aload hC dX2_addShip_87 rfl ?_
              refine z_iload_n hC dX2_addShip_89 rfl ?_
              refine z_put hC iA_X6 rfl tyX6 tyX6_ok nmX6 2 (by decide) rfl rfl 2 rfl qF_X2_86 rfl dX2_addShip_90 (cl_ship hb (by omega)) (cd_ship hb (by omega)) (fun _ => rfl) (fun _ => Nat.le_of_ble_eq_true rfl) ?_
              refine z_nm (fun μ13 hμ13 => ?_)
              obtain ⟨d15, hd15⟩ : ∃ q9 : zM, q9 = zup d12 (6 + (d 0 4)) 2 u := ⟨_, rfl⟩
              have hd14 : vw μ13 b = d15 := by rw [hμ13, vw_upk (by unfold zrel; omega), hd11, hd15]
              refine z_aload hC dX2_addShip_93 rfl ?_
              refine z_iload hC dX2_addShip_95 rfl ?_
              refine z_put hC iA_X6 rfl tyX6 tyX6_ok nmX6 3 (by decide) rfl rfl 3 rfl qF_X2_89 rfl dX2_addShip_97 (cl_ship hb (by omega)) (cd_ship hb (by omega)) (fun _ => rfl) (fun _ => Nat.le_of_ble_eq_true rfl) ?_
              refine z_nm (fun μ16 hμ16 => ?_)
              obtain ⟨d18, hd18⟩ : ∃ q9 : zM, q9 = zup d15 (6 + (d 0 4)) 3 p := ⟨_, rfl⟩
              have hd17 : vw μ16 b = d18 := by rw [hμ16, vw_upk (by unfold zrel; omega), hd14, hd18]
              refine z_aload hC dX2_addShip_100 rfl ?_
              refine z_iload hC dX2_addShip_102 rfl ?_
              refine z_put hC iA_X6 rfl tyX6 tyX6_ok nmX6 4 (by decide) rfl rfl 4 rfl qF_X2_92 rfl dX2_addShip_104 (cl_ship hb (by omega)) (cd_ship hb (by omega)) (fun _ => rfl) (fun _ => Nat.le_of_ble_eq_true rfl) ?_
              refine z_nm (fun μ19 hμ19 => ?_)
              obtain ⟨d21, hd21⟩ : ∃ q9 : zM, q9 = zup d18 (6 + (d 0 4)) 4 t := ⟨_, rfl⟩
              have hd20 : vw μ19 b = d21 := by rw [hμ19, vw_upk (by unfold zrel; omega), hd17, hd21]
              refine z_aload_n hC dX2_addShip_107 rfl ?_
              refine z_dup hC dX2_addShip_108 rfl ?_
              refine z_get hC iA_X2 rfl 4 (by decide) qF_X2_52 rfl dX2_addShip_109 (cl_desk hb) (cd_desk hb) rfl ?_
              refine z_top (b := d21 0 4) ((vw_S).symm.trans (congrFun (congrFun hd20 _) _)) ?_
              refine z_top (b := d 0 4) (by rw [hd21, zup_n (by omega), hd18, zup_n (by omega), hd15, zup_n (by omega), hd12, zup_n (by omega), hd9, zup_n (by omega)]) ?_
              refine z_dup_x1 hC dX2_addShip_112 rfl rfl ?_
              refine z_iconst hC dX2_addShip_113 ?_
              refine z_iadd hC dX2_addShip_114 ?_
              refine z_put hC iA_X2 rfl tyX2 tyX2_ok nmX2 4 (by decide) rfl rfl 4 rfl qF_X2_52 rfl dX2_addShip_115 (cl_desk hb) (cd_desk hb) (fun _ => rfl) (fun _ => Nat.le_of_ble_eq_true rfl) ?_
              refine z_nm (fun μ22 hμ22 => ?_)
              obtain ⟨d24, hd24⟩ : ∃ q9 : zM, q9 = zup d21 0 4 ((d 0 4) + 1) := ⟨_, rfl⟩
              have hd23 : vw μ22 b = d24 := by rw [hμ22, vw_up0 (by unfold zrel; omega), hd20, hd24]
              have e9 : opShip d z v u p t = (d 0 4, zup (zup (zup (zup (zup (zup d (6 + (d 0 4)) 0 z) (6 + (d 0 4)) 1 v) (6 + (d 0 4)) 2 u) (6 + (d 0 4)) 3 p) (6 + (d 0 4)) 4 t) 0 4 ((d 0 4) + 1)) := by
                unfold opShip
                rw [if_neg (by omega), if_neg (by omega)]
              exact z_iret hC dX2_addShip_118 ⟨by rw [e9], by rw [e9, hd23, hd24, hd21, hd18, hd15, hd12, hd9], fun c9 hc9 => by rw [hμ22, zup_o (by omega), hμ19, zup_o (by omega), hμ16, zup_o (by omega), hμ13, zup_o (by omega), hμ10, zup_o (by omega), hμ7, zup_o (by omega)]⟩
            · refine z_ldc hC (-1000003) qc_X2_79 rfl dX2_addShip_61 ?_
              have e9 : opShip d z v u p t = ((-1000003), d) := by
                unfold opShip
                rw [if_neg (by omega), if_pos (by omega)]
              exact z_iret hC dX2_addShip_63 ⟨by rw [e9], by rw [e9, hd], fun c9 hc9 => rfl⟩
          · refine z_ldc hC (-1000001) qc_X2_73 rfl dX2_addShip_50 ?_
            have e9 : opShip d z v u p t = ((-1000001), d) := by
              unfold opShip
              rw [if_pos (by omega)]
            exact z_iret hC dX2_addShip_52 ⟨by rw [e9], by rw [e9, hd], fun c9 hc9 => rfl⟩

set_option maxHeartbeats 4000000 in
set_option maxRecDepth 100000 in
/-- opCargo d a g u f t w -/
theorem m_X2_addCargo (l : Launch) (G : va_G) (ca : Nat → ClassId) (ad : Int → Nat) (A : Nat → Prop) (μ : zM) (b : Int) (hb : zb b) (d : zM) (hd : vw μ b = d) (a g u f t w : Int) (ha : -2147483648 ≤ a ∧ a ≤ 2147483647) (hg : -2147483648 ≤ g ∧ g ≤ 2147483647) (hu : -2147483648 ≤ u ∧ u ≤ 2147483647) (hf : -2147483648 ≤ f ∧ f ≤ 2147483647) (ht : -2147483648 ≤ t ∧ t ≤ 2147483647) (hw : -2147483648 ≤ w ∧ w ≤ 2147483647) (hN : bN d) : zMet l (cω G ca ad) A yX2_addCargo cX2_addCargo 8 (some .int) 2 42 [.ref (ad b), .int (iZ a), .int (iZ g), .int (iZ u), .int (iZ f), .int (iZ t), .int (iZ w)] μ (zpI (.int (iZ (opCargo d a g u f t w).1)) (fun μ' => vw μ' b = (opCargo d a g u f t w).2 ∧ zFd μ b μ')) := by
  refine zMet_of (by decide) (Nat.le_of_ble_eq_true rfl) (fun Γ hC => ?_)
  show Z Γ _ μ 0 [(0, .ref (ad b)), (1, .int (iZ a)), (2, .int (iZ g)), (3, .int (iZ u)), (4, .int (iZ f)), (5, .int (iZ t)), (6, .int (iZ w))] []
  obtain ⟨hN1, hN2⟩ := id hN
  refine z_iload_n hC dX2_addCargo_0 rfl ?_
  refine z_iconst hC dX2_addCargo_1 ?_
  refine z_bipush hC dX2_addCargo_2 (by decide) ?_
  refine z_callSN hC [.int (iZ a), .int (iZ 1), .int (iZ 99)] 3 rfl dX2_addCargo_4 (fun l => m_X7_isIn l _ _ _ a 1 99 (by omega) (by omega) (by omega)) (by decide +kernel) qT_X7_isIn qi_X7 qC_X7_isIn (by decide +kernel) (by decide) (by decide) (Nat.le_of_ble_eq_true rfl) (zk_pure ?_) rfl
  refine z_ifb_eq hC 65 dX2_addCargo_7 (by decide) (fun c_1 => ?_) (fun c_1 => ?_)
  · refine z_ldc hC (-1000001) qc_X2_73 rfl dX2_addCargo_65 ?_
    have e9 : opCargo d a g u f t w = ((-1000001), d) := by
      unfold opCargo
      rw [if_pos (by omega)]
    exact z_iret hC dX2_addCargo_67 ⟨by rw [e9], by rw [e9, hd], fun c9 hc9 => rfl⟩
  · refine z_iload_n hC dX2_addCargo_10 rfl ?_
    refine z_callSN hC [.int (iZ g)] 1 rfl dX2_addCargo_11 (fun l => m_X7_isPort l _ _ _ g (by omega)) (by decide +kernel) qT_X7_isPort qi_X7 qC_X7_isPort (by decide +kernel) (by decide) (by decide) (Nat.le_of_ble_eq_true rfl) (zk_pure ?_) rfl
    refine z_ifb_eq hC 65 dX2_addCargo_14 (by decide) (fun c_2 => ?_) (fun c_2 => ?_)
    · refine z_ldc hC (-1000001) qc_X2_73 rfl dX2_addCargo_65 ?_
      have e9 : opCargo d a g u f t w = ((-1000001), d) := by
        unfold opCargo
        rw [if_pos (by omega)]
      exact z_iret hC dX2_addCargo_67 ⟨by rw [e9], by rw [e9, hd], fun c9 hc9 => rfl⟩
    · refine z_iload_n hC dX2_addCargo_17 rfl ?_
      refine z_callSN hC [.int (iZ u)] 1 rfl dX2_addCargo_18 (fun l => m_X7_isPort l _ _ _ u (by omega)) (by decide +kernel) qT_X7_isPort qi_X7 qC_X7_isPort (by decide +kernel) (by decide) (by decide) (Nat.le_of_ble_eq_true rfl) (zk_pure ?_) rfl
      refine z_ifb_eq hC 65 dX2_addCargo_21 (by decide) (fun c_3 => ?_) (fun c_3 => ?_)
      · refine z_ldc hC (-1000001) qc_X2_73 rfl dX2_addCargo_65 ?_
        have e9 : opCargo d a g u f t w = ((-1000001), d) := by
          unfold opCargo
          rw [if_pos (by omega)]
        exact z_iret hC dX2_addCargo_67 ⟨by rw [e9], by rw [e9, hd], fun c9 hc9 => rfl⟩
      · refine z_iload_n hC dX2_addCargo_24 rfl ?_
        refine z_iload_n hC dX2_addCargo_25 rfl ?_
        refine z_icmp_eq hC 65 dX2_addCargo_26 (by decide) (by omega) (by omega) (fun c_4 => ?_) (fun c_4 => ?_)
        · refine z_ldc hC (-1000001) qc_X2_73 rfl dX2_addCargo_65 ?_
          have e9 : opCargo d a g u f t w = ((-1000001), d) := by
            unfold opCargo
            rw [if_pos (by omega)]
          exact z_iret hC dX2_addCargo_67 ⟨by rw [e9], by rw [e9, hd], fun c9 hc9 => rfl⟩
        · refine z_iload hC dX2_addCargo_29 rfl ?_
          refine z_iconst hC dX2_addCargo_31 ?_
          refine z_sipush hC dX2_addCargo_32 (by decide) ?_
          refine z_callSN hC [.int (iZ f), .int (iZ 0), .int (iZ 999)] 3 rfl dX2_addCargo_35 (fun l => m_X7_isIn l _ _ _ f 0 999 (by omega) (by omega) (by omega)) (by decide +kernel) qT_X7_isIn qi_X7 qC_X7_isIn (by decide +kernel) (by decide) (by decide) (Nat.le_of_ble_eq_true rfl) (zk_pure ?_) rfl
          refine z_ifb_eq hC 65 dX2_addCargo_38 (by decide) (fun c_5 => ?_) (fun c_5 => ?_)
          · refine z_ldc hC (-1000001) qc_X2_73 rfl dX2_addCargo_65 ?_
            have e9 : opCargo d a g u f t w = ((-1000001), d) := by
              unfold opCargo
              rw [if_pos (by omega)]
            exact z_iret hC dX2_addCargo_67 ⟨by rw [e9], by rw [e9, hd], fun c9 hc9 => rfl⟩
          · refine z_iload hC dX2_addCargo_41 rfl ?_
            refine z_iload hC dX2_addCargo_43 rfl ?_
            refine z_sipush hC dX2_addCargo_45 (by decide) ?_
            refine z_callSN hC [.int (iZ t), .int (iZ f), .int (iZ 999)] 3 rfl dX2_addCargo_48 (fun l => m_X7_isIn l _ _ _ t f 999 (by omega) (by omega) (by omega)) (by decide +kernel) qT_X7_isIn qi_X7 qC_X7_isIn (by decide +kernel) (by decide) (by decide) (Nat.le_of_ble_eq_true rfl) (zk_pure ?_) rfl
            refine z_ifb_eq hC 65 dX2_addCargo_51 (by decide) (fun c_6 => ?_) (fun c_6 => ?_)
            · refine z_ldc hC (-1000001) qc_X2_73 rfl dX2_addCargo_65 ?_
              have e9 : opCargo d a g u f t w = ((-1000001), d) := by
                unfold opCargo
                rw [if_pos (by omega)]
              exact z_iret hC dX2_addCargo_67 ⟨by rw [e9], by rw [e9, hd], fun c9 hc9 => rfl⟩
            · refine z_iload hC dX2_addCargo_54 rfl ?_
              refine z_iconst hC dX2_addCargo_56 ?_
              refine z_bipush hC dX2_addCargo_57 (by decide) ?_
              refine z_callSN hC [.int (iZ w), .int (iZ 1), .int (iZ 99)] 3 rfl dX2_addCargo_59 (fun l => m_X7_isIn l _ _ _ w 1 99 (by omega) (by omega) (by omega)) (by decide +kernel) qT_X7_isIn qi_X7 qC_X7_isIn (by decide +kernel) (by decide) (by decide) (Nat.le_of_ble_eq_true rfl) (zk_pure ?_) rfl
              refine z_ifb_ne hC 68 dX2_addCargo_62 (by decide) (fun c_7 => ?_) (fun c_7 => ?_)
              · refine z_aload_n hC dX2_addCargo_68 rfl ?_
                refine z_get hC iA_X2 rfl 5 (by decide) qF_X2_56 rfl dX2_addCargo_69 (cl_desk hb) (cd_desk hb) rfl ?_
                refine z_top (b := d 0 5) ((vw_Cn).symm.trans (congrFun (congrFun hd _) _)) ?_
                refine z_bipush hC dX2_addCargo_72 (by decide) ?_
                refine z_icmp_lt hC 80 dX2_addCargo_74 (by decide) (by omega) (by omega) (fun c_8 => ?_) (fun c_8 => ?_)
                · refine z_aload_n hC dX2_addCargo_80 rfl ?_
                  refine z_get hC iA_X2 rfl 3 (by decide) qF_X2_26 rfl dX2_addCargo_81 (cl_desk hb) (cd_desk hb) rfl ?_
                  refine z_aload_n hC dX2_addCargo_84 rfl ?_
                  refine z_get hC iA_X2 rfl 5 (by decide) qF_X2_56 rfl dX2_addCargo_85 (cl_desk hb) (cd_desk hb) rfl ?_
                  refine z_top (b := d 0 5) ((vw_Cn).symm.trans (congrFun (congrFun hd _) _)) ?_
                  refine z_aald hC dX2_addCargo_88 3 rfl (cl_cargoes hb) (fun _ i => b + 16 + i) (cd_cargoes hb) (by omega) (by omega) (by decide) ?_
                  refine z_astore hC dX2_addCargo_89 (by decide) rfl ?_
                  refine z_aload hC dX2_addCargo_91 rfl ?_
                  refine z_iload_n hC dX2_addCargo_93 rfl ?_
                  refine z_put hC iA_X0 rfl tyX0 tyX0_ok nmX0 0 (by decide) rfl rfl 0 rfl qF_X2_95 rfl dX2_addCargo_94 (cl_cargo hb (by omega)) (cd_cargo hb (by omega)) (fun _ => rfl) (fun _ => Nat.le_of_ble_eq_true rfl) ?_
                  refine z_nm (fun μ9 hμ9 => ?_)
                  obtain ⟨d11, hd11⟩ : ∃ q9 : zM, q9 = zup d (16 + (d 0 5)) 0 a := ⟨_, rfl⟩
                  have hd10 : vw μ9 b = d11 := by rw [hμ9, vw_upk (by unfold zrel; omega), hd, hd11]
                  refine z_aload hC dX2_addCargo_97 rfl ?_
                  refine z_iload_n hC dX2_addCargo_99 rfl ?_
                  refine z_put hC iA_X0 rfl tyX0 tyX0_ok nmX0 1 (by decide) rfl rfl 1 rfl qF_X2_98 rfl dX2_addCargo_100 (cl_cargo hb (by omega)) (cd_cargo hb (by omega)) (fun _ => rfl) (fun _ => Nat.le_of_ble_eq_true rfl) ?_
                  refine z_nm (fun μ12 hμ12 => ?_)
                  obtain ⟨d14, hd14⟩ : ∃ q9 : zM, q9 = zup d11 (16 + (d 0 5)) 1 g := ⟨_, rfl⟩
                  have hd13 : vw μ12 b = d14 := by rw [hμ12, vw_upk (by unfold zrel; omega), hd10, hd14]
                  refine z_aload hC dX2_addCargo_103 rfl ?_
                  refine z_iload_n hC dX2_addCargo_105 rfl ?_
                  refine z_put hC iA_X0 rfl tyX0 tyX0_ok nmX0 2 (by decide) rfl rfl 2 rfl qF_X2_101 rfl dX2_addCargo_106 (cl_cargo hb (by omega)) (cd_cargo hb (by omega)) (fun _ => rfl) (fun _ => Nat.le_of_ble_eq_true rfl) ?_
                  refine z_nm (fun μ15 hμ15 => ?_)
                  obtain ⟨d17, hd17⟩ : ∃ q9 : zM, q9 = zup d14 (16 + (d 0 5)) 2 u := ⟨_, rfl⟩
                  have hd16 : vw μ15 b = d17 := by rw [hμ15, vw_upk (by unfold zrel; omega), hd13, hd17]
                  refine z_aload hC dX2_addCargo_109 rfl ?_
                  refine z_iload hC dX2_addCargo_111 rfl ?_
                  refine z_put hC iA_X0 rfl tyX0 tyX0_ok nmX0 3 (by decide) rfl rfl 3 rfl qF_X2_104 rfl dX2_addCargo_113 (cl_cargo hb (by omega)) (cd_cargo hb (by omega)) (fun _ => rfl) (fun _ => Nat.le_of_ble_eq_true rfl) ?_
                  refine z_nm (fun μ18 hμ18 => ?_)
                  obtain ⟨d20, hd20⟩ : ∃ q9 : zM, q9 = zup d17 (16 + (d 0 5)) 3 f := ⟨_, rfl⟩
                  have hd19 : vw μ18 b = d20 := by rw [hμ18, vw_upk (by unfold zrel; omega), hd16, hd20]
                  refine z_aload hC dX2_addCargo_116 rfl ?_
                  refine z_iload hC dX2_addCargo_118 rfl ?_
                  refine z_put hC iA_X0 rfl tyX0 tyX0_ok nmX0 4 (by decide) rfl rfl 4 rfl qF_X2_107 rfl dX2_addCargo_120 (cl_cargo hb (by omega)) (cd_cargo hb (by omega)) (fun _ => rfl) (fun _ => Nat.le_of_ble_eq_true rfl) ?_
                  refine z_nm (fun μ21 hμ21 => ?_)
                  obtain ⟨d23, hd23⟩ : ∃ q9 : zM, q9 = zup d20 (16 + (d 0 5)) 4 t := ⟨_, rfl⟩
                  have hd22 : vw μ21 b = d23 := by rw [hμ21, vw_upk (by unfold zrel; omega), hd19, hd23]
                  refine z_aload hC dX2_addCargo_123 rfl ?_
                  refine z_iload hC dX2_addCargo_125 rfl ?_
                  refine z_put hC iA_X0 rfl tyX0 tyX0_ok nmX0 5 (by decide) rfl rfl 5 rfl qF_X2_110 rfl dX2_addCargo_127 (cl_cargo hb (by omega)) (cd_cargo hb (by omega)) (fun _ => rfl) (fun _ => Nat.le_of_ble_eq_true rfl) ?_
                  refine z_nm (fun μ24 hμ24 => ?_)
                  obtain ⟨d26, hd26⟩ : ∃ q9 : zM, q9 = zup d23 (16 + (d 0 5)) 5 w := ⟨_, rfl⟩
                  have hd25 : vw μ24 b = d26 := by rw [hμ24, vw_upk (by unfold zrel; omega), hd22, hd26]
                  refine z_aload_n hC dX2_addCargo_130 rfl ?_
                  refine z_dup hC dX2_addCargo_131 rfl ?_
                  refine z_get hC iA_X2 rfl 5 (by decide) qF_X2_56 rfl dX2_addCargo_132 (cl_desk hb) (cd_desk hb) rfl ?_
                  refine z_top (b := d26 0 5) ((vw_Cn).symm.trans (congrFun (congrFun hd25 _) _)) ?_
                  refine z_top (b := d 0 5) (by rw [hd26, zup_n (by omega), hd23, zup_n (by omega), hd20, zup_n (by omega), hd17, zup_n (by omega), hd14, zup_n (by omega), hd11, zup_n (by omega)]) ?_
                  refine z_dup_x1 hC dX2_addCargo_135 rfl rfl ?_
                  refine z_iconst hC dX2_addCargo_136 ?_
                  refine z_iadd hC dX2_addCargo_137 ?_
                  refine z_put hC iA_X2 rfl tyX2 tyX2_ok nmX2 5 (by decide) rfl rfl 5 rfl qF_X2_56 rfl dX2_addCargo_138 (cl_desk hb) (cd_desk hb) (fun _ => rfl) (fun _ => Nat.le_of_ble_eq_true rfl) ?_
                  refine z_nm (fun μ27 hμ27 => ?_)
                  obtain ⟨d29, hd29⟩ : ∃ q9 : zM, q9 = zup d26 0 5 ((d 0 5) + 1) := ⟨_, rfl⟩
                  have hd28 : vw μ27 b = d29 := by rw [hμ27, vw_up0 (by unfold zrel; omega), hd25, hd29]
                  have e9 : opCargo d a g u f t w = (d 0 5, zup (zup (zup (zup (zup (zup (zup d (16 + (d 0 5)) 0 a) (16 + (d 0 5)) 1 g) (16 + (d 0 5)) 2 u) (16 + (d 0 5)) 3 f) (16 + (d 0 5)) 4 t) (16 + (d 0 5)) 5 w) 0 5 ((d 0 5) + 1)) := by
                    unfold opCargo
                    rw [if_neg (by omega), if_neg (by omega)]
                  exact z_iret hC dX2_addCargo_141 ⟨by rw [e9], by rw [e9, hd28, hd29, hd26, hd23, hd20, hd17, hd14, hd11], fun c9 hc9 => by rw [hμ27, zup_o (by omega), hμ24, zup_o (by omega), hμ21, zup_o (by omega), hμ18, zup_o (by omega), hμ15, zup_o (by omega), hμ12, zup_o (by omega), hμ9, zup_o (by omega)]⟩
                · refine z_ldc hC (-1000003) qc_X2_79 rfl dX2_addCargo_77 ?_
                  have e9 : opCargo d a g u f t w = ((-1000003), d) := by
                    unfold opCargo
                    rw [if_neg (by omega), if_pos (by omega)]
                  exact z_iret hC dX2_addCargo_79 ⟨by rw [e9], by rw [e9, hd], fun c9 hc9 => rfl⟩
              · refine z_ldc hC (-1000001) qc_X2_73 rfl dX2_addCargo_65 ?_
                have e9 : opCargo d a g u f t w = ((-1000001), d) := by
                  unfold opCargo
                  rw [if_pos (by omega)]
                exact z_iret hC dX2_addCargo_67 ⟨by rw [e9], by rw [e9, hd], fun c9 hc9 => rfl⟩

set_option maxHeartbeats 4000000 in
set_option maxRecDepth 100000 in
/-- dropFixtures(ship k, f, t) -/
theorem m_X2_dropFixtures (l : Launch) (G : va_G) (ca : Nat → ClassId) (ad : Int → Nat) (A : Nat → Prop) (μ : zM) (b : Int) (hb : zb b) (d : zM) (hd : vw μ b = d) (k f t : Int) (N : Nat) (hN : bN d) (hk : 0 ≤ k ∧ k < 5) (hf : 0 ≤ f) (hfN : f + (N : Int) = d (6 + k) 6) (hfc : d (6 + k) 6 ≤ 10) (ht : 0 ≤ t ∧ t ≤ 2) (hF : ∀ x, f ≤ x ∧ x < d (6 + k) 6 → 0 ≤ d (11 + k) x ∧ d (11 + k) x < d 0 5) : zMet l (cω G ca ad) A yX2_dropFixtures cX2_dropFixtures 5 none 1 21 [.ref (ad b), .ref (ad (b + 6 + k)), .int (iZ f), .int (iZ t)] μ (zpV (fun μ' => vw μ' b = zup (sDrop k t N f d) (6 + k) 6 f ∧ (∀ c, c < b + 6 ∨ b + 26 ≤ c → μ' c = μ c))) := by
  refine zMet_of (by decide) (Nat.le_of_ble_eq_true rfl) (fun Γ hC => ?_)
  show Z Γ _ μ 0 [(0, .ref (ad b)), (1, .ref (ad (b + 6 + k))), (2, .int (iZ f)), (3, .int (iZ t))] []
  obtain ⟨hN1, hN2⟩ := id hN
  refine z_iload_n hC dX2_dropFixtures_0 rfl ?_
  refine z_istore hC dX2_dropFixtures_1 (by decide) rfl ?_
  have LOOP : ∀ (r n : Nat), n + r = N → ∀ (μ1 d1 : zM) (x : Int), x = f + (n : Int) → vw μ1 b = d1 → sDrop k t r x d1 = sDrop k t N f d → (∀ o i, o < 16 → d1 o i = d o i) → (∀ c, c < b + 6 ∨ b + 26 ≤ c → μ1 c = μ c) → Z Γ (cω G ca ad) μ1 3 [(4, .int (iZ x)), (0, .ref (ad b)), (1, .ref (ad (b + 6 + k))), (2, .int (iZ f)), (3, .int (iZ t))] [] := by
    intro r
    induction r with
    | zero =>
      intro n hn μ1 d1 x hx hd1 hD ho1 hfr
      have hfc : d1 (6 + k) 6 = d (6 + k) 6 := ho1 _ _ (by omega)
      refine z_iload hC dX2_dropFixtures_3 rfl ?_
      refine z_aload_n hC dX2_dropFixtures_5 rfl ?_
      refine z_get hC iA_X6 rfl 6 (by decide) qF_X2_126 rfl dX2_dropFixtures_6 (cl_ship hb (by omega)) (cd_ship hb (by omega)) rfl ?_
      refine z_top (b := d1 (6 + k) 6) ((vw_ship (by omega) (by omega)).symm.trans (congrFun (congrFun hd1 _) _)) ?_
      refine z_icmp_ge hC 48 dX2_dropFixtures_9 (by decide) (by omega) (by omega) (fun c_1 => ?_) (fun c_1 => ?_)
      · refine z_aload_n hC dX2_dropFixtures_48 rfl ?_
        refine z_iload_n hC dX2_dropFixtures_49 rfl ?_
        refine z_put hC iA_X6 rfl tyX6 tyX6_ok nmX6 6 (by decide) rfl rfl 6 rfl qF_X2_126 rfl dX2_dropFixtures_50 (cl_ship hb (by omega)) (cd_ship hb (by omega)) (fun _ => rfl) (fun _ => Nat.le_of_ble_eq_true rfl) ?_
        refine z_nm (fun μ2 hμ2 => ?_)
        obtain ⟨d4, hd4⟩ : ∃ q9 : zM, q9 = zup d1 (6 + k) 6 f := ⟨_, rfl⟩
        have hd3 : vw μ2 b = d4 := by rw [hμ2, vw_upk (by unfold zrel; omega), hd1, hd4]
        obtain rfl : n = N := by omega
        exact z_vret hC dX2_dropFixtures_53 ⟨rfl, by rw [hd3, hd4]; exact congrArg (fun q => zup q (6 + k) 6 f) hD, fun c9 hc9 => by rw [hμ2, zup_o (by omega)]; exact hfr c9 hc9⟩
      · exfalso; omega
    | succ r ih =>
      intro n hn μ1 d1 x hx hd1 hD ho1 hfr
      have hfc : d1 (6 + k) 6 = d (6 + k) 6 := ho1 _ _ (by omega)
      have hcc : d1 0 5 = d 0 5 := ho1 _ _ (by omega)
      have hfx : d1 (11 + k) x = d (11 + k) x := ho1 _ _ (by omega)
      have hF1 := hF x (by omega)
      refine z_iload hC dX2_dropFixtures_3 rfl ?_
      refine z_aload_n hC dX2_dropFixtures_5 rfl ?_
      refine z_get hC iA_X6 rfl 6 (by decide) qF_X2_126 rfl dX2_dropFixtures_6 (cl_ship hb (by omega)) (cd_ship hb (by omega)) rfl ?_
      refine z_top (b := d1 (6 + k) 6) ((vw_ship (by omega) (by omega)).symm.trans (congrFun (congrFun hd1 _) _)) ?_
      refine z_icmp_ge hC 48 dX2_dropFixtures_9 (by decide) (by omega) (by omega) (fun c_5 => ?_) (fun c_5 => ?_)
      · exfalso; omega
      · refine z_aload_n hC dX2_dropFixtures_12 rfl ?_
        refine z_aload_n hC dX2_dropFixtures_13 rfl ?_
        refine z_get hC iA_X6 rfl 7 (by decide) qF_X2_129 rfl dX2_dropFixtures_14 (cl_ship hb (by omega)) (cd_ship hb (by omega)) rfl ?_
        refine z_iload hC dX2_dropFixtures_17 rfl ?_
        refine z_iald hC dX2_dropFixtures_19 (cl_fx hb (by omega)) (cd_fx hb (by omega)) (by omega) (by omega) (by decide) ?_
        refine z_top (b := d1 (11 + k) x) ((vw_fx (by omega) (by omega)).symm.trans (congrFun (congrFun hd1 _) _)) ?_
        have hN6 : μ1 b 5 = d1 0 5 := by rw [← hd1, vw_Cn]
        refine z_callV hC [.int (iZ (d1 (11 + k) x))] 1 rfl dX2_dropFixtures_20 (fun l => m_X2_isCargo l G ca ad _ μ1 b hb (d1 (11 + k) x) (by omega) (by omega)) qM_X2_116 qI_X2_isCargo qS_X2_isCargo qi_X2 qC_X2_isCargo (by decide +kernel) (by decide) (by decide) (cl_desk hb) (cd_desk hb) rfl (Nat.le_of_ble_eq_true rfl) (zk_pure ?_) rfl
        rw [hN6]
        refine z_ifb_eq hC 42 dX2_dropFixtures_23 (by decide) (fun c_7 => ?_) (fun c_7 => ?_)
        · exfalso; omega
        · refine z_aload_n hC dX2_dropFixtures_26 rfl ?_
          refine z_get hC iA_X2 rfl 3 (by decide) qF_X2_26 rfl dX2_dropFixtures_27 (cl_desk hb) (cd_desk hb) rfl ?_
          refine z_aload_n hC dX2_dropFixtures_30 rfl ?_
          refine z_get hC iA_X6 rfl 7 (by decide) qF_X2_129 rfl dX2_dropFixtures_31 (cl_ship hb (by omega)) (cd_ship hb (by omega)) rfl ?_
          refine z_iload hC dX2_dropFixtures_34 rfl ?_
          refine z_iald hC dX2_dropFixtures_36 (cl_fx hb (by omega)) (cd_fx hb (by omega)) (by omega) (by omega) (by decide) ?_
          refine z_top (b := d1 (11 + k) x) ((vw_fx (by omega) (by omega)).symm.trans (congrFun (congrFun hd1 _) _)) ?_
          refine z_aald hC dX2_dropFixtures_37 3 rfl (cl_cargoes hb) (fun _ i => b + 16 + i) (cd_cargoes hb) (by omega) (by omega) (by decide) ?_
          refine z_iload_n hC dX2_dropFixtures_38 rfl ?_
          refine z_put hC iA_X0 rfl tyX0 tyX0_ok nmX0 6 (by decide) rfl rfl 6 rfl qF_X2_119 rfl dX2_dropFixtures_39 (cl_cargo hb (by omega)) (cd_cargo hb (by omega)) (fun _ => rfl) (fun _ => Nat.le_of_ble_eq_true rfl) ?_
          refine z_nm (fun μ8 hμ8 => ?_)
          obtain ⟨d10, hd10⟩ : ∃ q9 : zM, q9 = zup d1 (16 + (d1 (11 + k) x)) 6 t := ⟨_, rfl⟩
          have hd9 : vw μ8 b = d10 := by rw [hμ8, vw_upk (by unfold zrel; omega), hd1, hd10]
          refine z_iinc hC dX2_dropFixtures_42 rfl (by decide) rfl ?_
          refine z_goto hC 3 dX2_dropFixtures_45 (by decide) ?_
          refine z_weak (L' := [(4, .int (iZ (x + 1))), (0, .ref (ad b)), (1, .ref (ad (b + 6 + k))), (2, .int (iZ f)), (3, .int (iZ t))]) ⟨rfl, rfl, rfl, rfl, rfl, trivial⟩ ?_
          exact ih (n + 1) (by omega) _ _ (x + 1) (by omega) hd9 (by rw [← hD, hd10]; rfl) (fun o i ho => by rw [hd10, zup_n (by omega)]; exact ho1 o i ho) (fun c9 hc9 => by rw [hμ8, zup_o (by omega)]; exact hfr c9 hc9)
  refine z_weak (L' := [(4, .int (iZ f)), (0, .ref (ad b)), (1, .ref (ad (b + 6 + k))), (2, .int (iZ f)), (3, .int (iZ t))]) ⟨rfl, rfl, rfl, rfl, rfl, trivial⟩ ?_
  exact LOOP N 0 (by omega) _ _ f (by omega) hd rfl (fun _ _ _ => rfl) (fun _ _ => rfl)
end
section
set_option maxHeartbeats 4000000 in
set_option maxRecDepth 100000 in
/-- opFix d k c -/
theorem m_X2_fixShip (l : Launch) (G : va_G) (ca : Nat → ClassId) (ad : Int → Nat) (A : Nat → Prop) (μ : zM) (b : Int) (hb : zb b) (d : zM) (hd : vw μ b = d) (k c : Int) (hk : -2147483648 ≤ k ∧ k ≤ 2147483647) (hc : -2147483648 ≤ c ∧ c ≤ 2147483647) (hB : bD d) (hG : ∀ k, 0 ≤ k ∧ k < d 0 4 → zGo d k (sNum d k)) (hfull : ∀ k c, 0 ≤ k ∧ k < d 0 4 → 0 ≤ c ∧ c < d 0 5 → d (16 + c) 6 = 0 → d (6 + k) 6 < 10) : zMet l (cω G ca ad) A yX2_fixShip cX2_fixShip 5 (some .int) 4 112 [.ref (ad b), .int (iZ k), .int (iZ c)] μ (zpI (.int (iZ (opFix d k c).1)) (fun μ' => vw μ' b = (opFix d k c).2 ∧ zFd μ b μ')) := by
  refine zMet_of (by decide) (Nat.le_of_ble_eq_true rfl) (fun Γ hC => ?_)
  show Z Γ _ μ 0 [(0, .ref (ad b)), (1, .int (iZ k)), (2, .int (iZ c))] []
  obtain ⟨hN, hP, hB3, hB4⟩ := id hB
  obtain ⟨hN1, hN2⟩ := id hN
  have hcb := sCould_b d k c
  refine z_aload_n hC dX2_fixShip_0 rfl ?_
  refine z_iload_n hC dX2_fixShip_1 rfl ?_
  have hN1 : μ b 4 = d 0 4 := by rw [← hd, vw_S]
  refine z_callV hC [.int (iZ k)] 1 rfl dX2_fixShip_2 (fun l => m_X2_isShip l G ca ad _ μ b hb k (by omega) (by omega)) qM_X2_113 qI_X2_isShip qS_X2_isShip qi_X2 qC_X2_isShip (by decide +kernel) (by decide) (by decide) (cl_desk hb) (cd_desk hb) rfl (Nat.le_of_ble_eq_true rfl) (zk_pure ?_) rfl
  rw [hN1]
  refine z_ifb_eq hC 16 dX2_fixShip_5 (by decide) (fun c_2 => ?_) (fun c_2 => ?_)
  · refine z_ldc hC (-1000001) qc_X2_73 rfl dX2_fixShip_16 ?_
    have e9 : opFix d k c = ((-1000001), d) := by
      unfold opFix
      rw [if_pos (by omega)]
    exact z_iret hC dX2_fixShip_18 ⟨by rw [e9], by rw [e9, hd], fun c9 hc9 => rfl⟩
  · refine z_aload_n hC dX2_fixShip_8 rfl ?_
    refine z_iload_n hC dX2_fixShip_9 rfl ?_
    have hN3 : μ b 5 = d 0 5 := by rw [← hd, vw_Cn]
    refine z_callV hC [.int (iZ c)] 1 rfl dX2_fixShip_10 (fun l => m_X2_isCargo l G ca ad _ μ b hb c (by omega) (by omega)) qM_X2_116 qI_X2_isCargo qS_X2_isCargo qi_X2 qC_X2_isCargo (by decide +kernel) (by decide) (by decide) (cl_desk hb) (cd_desk hb) rfl (Nat.le_of_ble_eq_true rfl) (zk_pure ?_) rfl
    rw [hN3]
    refine z_ifb_ne hC 19 dX2_fixShip_13 (by decide) (fun c_4 => ?_) (fun c_4 => ?_)
    · obtain ⟨hs0, hs1, hs2, hs3, hs4, hs6⟩ := hB3 k (by omega)
      obtain ⟨hq0, hq1, hq2, hq3, hq4, hq5, hq6⟩ := hB4 c (by omega)
      refine z_aload_n hC dX2_fixShip_19 rfl ?_
      refine z_get hC iA_X2 rfl 2 (by decide) qF_X2_20 rfl dX2_fixShip_20 (cl_desk hb) (cd_desk hb) rfl ?_
      refine z_iload_n hC dX2_fixShip_23 rfl ?_
      refine z_aald hC dX2_fixShip_24 2 rfl (cl_ships hb) (fun _ i => b + 6 + i) (cd_ships hb) (by omega) (by omega) (by decide) ?_
      refine z_astore_n hC dX2_fixShip_25 (by decide) rfl ?_
      refine z_aload_n hC dX2_fixShip_26 rfl ?_
      refine z_get hC iA_X2 rfl 3 (by decide) qF_X2_26 rfl dX2_fixShip_27 (cl_desk hb) (cd_desk hb) rfl ?_
      refine z_iload_n hC dX2_fixShip_30 rfl ?_
      refine z_aald hC dX2_fixShip_31 3 rfl (cl_cargoes hb) (fun _ i => b + 16 + i) (cd_cargoes hb) (by omega) (by omega) (by decide) ?_
      refine z_astore hC dX2_fixShip_32 (by decide) rfl ?_
      refine z_aload hC dX2_fixShip_34 rfl ?_
      refine z_get hC iA_X0 rfl 6 (by decide) qF_X2_119 rfl dX2_fixShip_36 (cl_cargo hb (by omega)) (cd_cargo hb (by omega)) rfl ?_
      refine z_top (b := d (16 + c) 6) ((vw_cargo (by omega) (by omega)).symm.trans (congrFun (congrFun hd _) _)) ?_
      refine z_if_ne hC 60 dX2_fixShip_39 (by decide) (by omega) (fun c_5 => ?_) (fun c_5 => ?_)
      · refine z_ldc hC (-1000002) qc_X2_78 rfl dX2_fixShip_60 ?_
        have e9 : opFix d k c = ((-1000002), d) := by
          unfold opFix
          rw [if_neg (by omega), if_pos (by omega)]
        exact z_iret hC dX2_fixShip_62 ⟨by rw [e9], by rw [e9, hd], fun c9 hc9 => rfl⟩
      · refine z_aload_n hC dX2_fixShip_42 rfl ?_
        refine z_iload_n hC dX2_fixShip_43 rfl ?_
        refine z_iload_n hC dX2_fixShip_44 rfl ?_
        refine z_callV hC [.int (iZ k), .int (iZ c)] 2 rfl dX2_fixShip_45 (fun l => m_X2_hindrance l G ca ad _ μ b hb d hd k c hB (by omega) (by omega) (hG _ (by omega))) qM_X2_122 qI_X2_hindrance qS_X2_hindrance qi_X2 qC_X2_hindrance (by decide +kernel) (by decide) (by decide) (cl_desk hb) (cd_desk hb) rfl (Nat.le_of_ble_eq_true rfl) (zk_int (fun μ6 hμ6 => ?_)) rfl
        obtain ⟨hμ6f, hμ60, hμ61, hμ62, hμ63, hμ64, hμ65, hμ66, hμ67⟩ := id hμ6
        have hd7 : vw μ6 b = d := by rw [vw_fr5 hμ6f]; exact hd
        refine z_if_ne hC 60 dX2_fixShip_48 (by decide) (by omega) (fun c_8 => ?_) (fun c_8 => ?_)
        · refine z_ldc hC (-1000002) qc_X2_78 rfl dX2_fixShip_60 ?_
          have e9 : opFix d k c = ((-1000002), d) := by
            unfold opFix
            rw [if_neg (by omega), if_pos (by omega)]
          exact z_iret hC dX2_fixShip_62 ⟨by rw [e9], by rw [e9, hd7], fun c9 hc9 => by rw [hμ6f c9 (by omega)]⟩
        · have hf9 := hfull k c (by omega) (by omega) (by omega)
          refine z_aload_n hC dX2_fixShip_51 rfl ?_
          refine z_get hC iA_X6 rfl 6 (by decide) qF_X2_126 rfl dX2_fixShip_52 (cl_ship hb (by omega)) (cd_ship hb (by omega)) rfl ?_
          refine z_top (b := d (6 + k) 6) ((vw_ship (by omega) (by omega)).symm.trans (congrFun (congrFun hd7 _) _)) ?_
          refine z_bipush hC dX2_fixShip_55 (by decide) ?_
          refine z_icmp_lt hC 63 dX2_fixShip_57 (by decide) (by omega) (by omega) (fun c_9 => ?_) (fun c_9 => ?_)
          · refine z_aload_n hC dX2_fixShip_63 rfl ?_
            refine z_get hC iA_X6 rfl 7 (by decide) qF_X2_129 rfl dX2_fixShip_64 (cl_ship hb (by omega)) (cd_ship hb (by omega)) rfl ?_
            refine z_aload_n hC dX2_fixShip_67 rfl ?_
            refine z_get hC iA_X6 rfl 6 (by decide) qF_X2_126 rfl dX2_fixShip_68 (cl_ship hb (by omega)) (cd_ship hb (by omega)) rfl ?_
            refine z_top (b := d (6 + k) 6) ((vw_ship (by omega) (by omega)).symm.trans (congrFun (congrFun hd7 _) _)) ?_
            refine z_iload_n hC dX2_fixShip_71 rfl ?_
            refine z_iast hC dX2_fixShip_72 (cl_fx hb (by omega)) (cd_fx hb (by omega)) (by omega) (by omega) (by decide) ?_
            refine z_nm (fun μ10 hμ10 => ?_)
            obtain ⟨d12, hd12⟩ : ∃ q9 : zM, q9 = zup d (11 + k) (d (6 + k) 6) c := ⟨_, rfl⟩
            have hd11 : vw μ10 b = d12 := by rw [hμ10, vw_upk (by unfold zrel; omega), hd7, hd12]
            refine z_aload_n hC dX2_fixShip_73 rfl ?_
            refine z_dup hC dX2_fixShip_74 rfl ?_
            refine z_get hC iA_X6 rfl 6 (by decide) qF_X2_126 rfl dX2_fixShip_75 (cl_ship hb (by omega)) (cd_ship hb (by omega)) rfl ?_
            refine z_top (b := d12 (6 + k) 6) ((vw_ship (by omega) (by omega)).symm.trans (congrFun (congrFun hd11 _) _)) ?_
            refine z_top (b := d (6 + k) 6) (by rw [hd12, zup_n (by omega)]) ?_
            refine z_iconst hC dX2_fixShip_78 ?_
            refine z_iadd hC dX2_fixShip_79 ?_
            refine z_put hC iA_X6 rfl tyX6 tyX6_ok nmX6 6 (by decide) rfl rfl 6 rfl qF_X2_126 rfl dX2_fixShip_80 (cl_ship hb (by omega)) (cd_ship hb (by omega)) (fun _ => rfl) (fun _ => Nat.le_of_ble_eq_true rfl) ?_
            refine z_nm (fun μ13 hμ13 => ?_)
            obtain ⟨d15, hd15⟩ : ∃ q9 : zM, q9 = zup d12 (6 + k) 6 ((d (6 + k) 6) + 1) := ⟨_, rfl⟩
            have hd14 : vw μ13 b = d15 := by rw [hμ13, vw_upk (by unfold zrel; omega), hd11, hd15]
            refine z_aload hC dX2_fixShip_83 rfl ?_
            refine z_iconst hC dX2_fixShip_85 ?_
            refine z_put hC iA_X0 rfl tyX0 tyX0_ok nmX0 6 (by decide) rfl rfl 6 rfl qF_X2_119 rfl dX2_fixShip_86 (cl_cargo hb (by omega)) (cd_cargo hb (by omega)) (fun _ => rfl) (fun _ => Nat.le_of_ble_eq_true rfl) ?_
            refine z_nm (fun μ16 hμ16 => ?_)
            obtain ⟨d18, hd18⟩ : ∃ q9 : zM, q9 = zup d15 (16 + c) 6 1 := ⟨_, rfl⟩
            have hd17 : vw μ16 b = d18 := by rw [hμ16, vw_upk (by unfold zrel; omega), hd14, hd18]
            refine z_aload hC dX2_fixShip_89 rfl ?_
            refine z_iload_n hC dX2_fixShip_91 rfl ?_
            refine z_put hC iA_X0 rfl tyX0 tyX0_ok nmX0 7 (by decide) rfl rfl 7 rfl qF_X2_132 rfl dX2_fixShip_92 (cl_cargo hb (by omega)) (cd_cargo hb (by omega)) (fun _ => rfl) (fun _ => Nat.le_of_ble_eq_true rfl) ?_
            refine z_nm (fun μ19 hμ19 => ?_)
            obtain ⟨d21, hd21⟩ : ∃ q9 : zM, q9 = zup d18 (16 + c) 7 k := ⟨_, rfl⟩
            have hd20 : vw μ19 b = d21 := by rw [hμ19, vw_upk (by unfold zrel; omega), hd17, hd21]
            refine z_aload_n hC dX2_fixShip_95 rfl ?_
            refine z_get hC iA_X2 rfl 8 (by decide) qF_X2_33 rfl dX2_fixShip_96 (cl_desk hb) (cd_desk hb) rfl ?_
            refine z_get hC iA_X1 rfl 1 (by decide) qF_X2_135 rfl dX2_fixShip_99 (cl_course hb) (cd_course hb) rfl ?_
            refine z_top (b := sFree d k c (sEnd d k).1 (sEnd d k).2.1) (by rw [hμ19, zup_n (by omega), hμ16, zup_n (by omega), hμ13, zup_n (by omega), hμ10, zup_n (by omega), hμ61]) ?_
            have e9 : opFix d k c = (sFree d k c (sEnd d k).1 (sEnd d k).2.1, zup (zup (zup (zup d (11 + k) (d (6 + k) 6) c) (6 + k) 6 ((d (6 + k) 6) + 1)) (16 + c) 6 1) (16 + c) 7 k) := by
              unfold opFix
              rw [if_neg (by omega), if_neg (by omega)]
            exact z_iret hC dX2_fixShip_102 ⟨by rw [e9], by rw [e9, hd20, hd21, hd18, hd15, hd12], fun c9 hc9 => by rw [hμ19, zup_o (by omega), hμ16, zup_o (by omega), hμ13, zup_o (by omega), hμ10, zup_o (by omega), hμ6f c9 (by omega)]⟩
          · exfalso; omega
    · refine z_ldc hC (-1000001) qc_X2_73 rfl dX2_fixShip_16 ?_
      have e9 : opFix d k c = ((-1000001), d) := by
        unfold opFix
        rw [if_pos (by omega)]
      exact z_iret hC dX2_fixShip_18 ⟨by rw [e9], by rw [e9, hd], fun c9 hc9 => rfl⟩

set_option maxHeartbeats 4000000 in
set_option maxRecDepth 100000 in
/-- opOff d k -/
theorem m_X2_callOffLast (l : Launch) (G : va_G) (ca : Nat → ClassId) (ad : Int → Nat) (A : Nat → Prop) (μ : zM) (b : Int) (hb : zb b) (d : zM) (hd : vw μ b = d) (k : Int) (hk : -2147483648 ≤ k ∧ k ≤ 2147483647) (hB : bD d) (hF : ∀ k, 0 ≤ k ∧ k < d 0 4 → ∀ x, 0 ≤ x ∧ x < d (6 + k) 6 → 0 ≤ d (11 + k) x ∧ d (11 + k) x < d 0 5) : zMet l (cω G ca ad) A yX2_callOffLast cX2_callOffLast 5 (some .int) 2 45 [.ref (ad b), .int (iZ k)] μ (zpI (.int (iZ (opOff d k).1)) (fun μ' => vw μ' b = (opOff d k).2 ∧ zFd μ b μ')) := by
  refine zMet_of (by decide) (Nat.le_of_ble_eq_true rfl) (fun Γ hC => ?_)
  show Z Γ _ μ 0 [(0, .ref (ad b)), (1, .int (iZ k))] []
  obtain ⟨hN, hP, hB3, hB4⟩ := id hB
  obtain ⟨hN1, hN2⟩ := id hN
  have hN9 := hN
  refine z_aload_n hC dX2_callOffLast_0 rfl ?_
  refine z_iload_n hC dX2_callOffLast_1 rfl ?_
  have hN1 : μ b 4 = d 0 4 := by rw [← hd, vw_S]
  refine z_callV hC [.int (iZ k)] 1 rfl dX2_callOffLast_2 (fun l => m_X2_isShip l G ca ad _ μ b hb k (by omega) (by omega)) qM_X2_113 qI_X2_isShip qS_X2_isShip qi_X2 qC_X2_isShip (by decide +kernel) (by decide) (by decide) (cl_desk hb) (cd_desk hb) rfl (Nat.le_of_ble_eq_true rfl) (zk_pure ?_) rfl
  rw [hN1]
  refine z_ifb_ne hC 11 dX2_callOffLast_5 (by decide) (fun c_2 => ?_) (fun c_2 => ?_)
  · obtain ⟨hs0, hs1, hs2, hs3, hs4, hs6⟩ := hB3 k (by omega)
    refine z_aload_n hC dX2_callOffLast_11 rfl ?_
    refine z_get hC iA_X2 rfl 2 (by decide) qF_X2_20 rfl dX2_callOffLast_12 (cl_desk hb) (cd_desk hb) rfl ?_
    refine z_iload_n hC dX2_callOffLast_15 rfl ?_
    refine z_aald hC dX2_callOffLast_16 2 rfl (cl_ships hb) (fun _ i => b + 6 + i) (cd_ships hb) (by omega) (by omega) (by decide) ?_
    refine z_astore_n hC dX2_callOffLast_17 (by decide) rfl ?_
    refine z_aload_n hC dX2_callOffLast_18 rfl ?_
    refine z_get hC iA_X6 rfl 6 (by decide) qF_X2_126 rfl dX2_callOffLast_19 (cl_ship hb (by omega)) (cd_ship hb (by omega)) rfl ?_
    refine z_top (b := d (6 + k) 6) ((vw_ship (by omega) (by omega)).symm.trans (congrFun (congrFun hd _) _)) ?_
    refine z_iconst hC dX2_callOffLast_22 ?_
    refine z_isub hC dX2_callOffLast_23 ?_
    refine z_istore_n hC dX2_callOffLast_24 (by decide) rfl ?_
    refine z_iload_n hC dX2_callOffLast_25 rfl ?_
    refine z_if_lt hC 42 dX2_callOffLast_26 (by decide) (by omega) (fun c_3 => ?_) (fun c_3 => ?_)
    · refine z_ldc hC (-1000002) qc_X2_78 rfl dX2_callOffLast_42 ?_
      have e9 : opOff d k = ((-1000002), d) := by
        unfold opOff
        rw [if_neg (by omega), if_pos (by omega)]
      exact z_iret hC dX2_callOffLast_44 ⟨by rw [e9], by rw [e9, hd], fun c9 hc9 => rfl⟩
    · have hx9 := hF k (by omega) (d (6 + k) 6 - 1) (by omega)
      have hw9 := worth_b (hB4 _ hx9)
      refine z_aload_n hC dX2_callOffLast_29 rfl ?_
      refine z_aload_n hC dX2_callOffLast_30 rfl ?_
      refine z_get hC iA_X6 rfl 7 (by decide) qF_X2_129 rfl dX2_callOffLast_31 (cl_ship hb (by omega)) (cd_ship hb (by omega)) rfl ?_
      refine z_iload_n hC dX2_callOffLast_34 rfl ?_
      refine z_iald hC dX2_callOffLast_35 (cl_fx hb (by omega)) (cd_fx hb (by omega)) (by omega) (by omega) (by decide) ?_
      refine z_top (b := d (11 + k) ((d (6 + k) 6) - 1)) ((vw_fx (by omega) (by omega)).symm.trans (congrFun (congrFun hd _) _)) ?_
      have hN4 : μ b 5 = d 0 5 := by rw [← hd, vw_Cn]
      refine z_callV hC [.int (iZ (d (11 + k) ((d (6 + k) 6) - 1)))] 1 rfl dX2_callOffLast_36 (fun l => m_X2_isCargo l G ca ad _ μ b hb (d (11 + k) ((d (6 + k) 6) - 1)) (by omega) (by omega)) qM_X2_116 qI_X2_isCargo qS_X2_isCargo qi_X2 qC_X2_isCargo (by decide +kernel) (by decide) (by decide) (cl_desk hb) (cd_desk hb) rfl (Nat.le_of_ble_eq_true rfl) (zk_pure ?_) rfl
      rw [hN4]
      refine z_ifb_ne hC 45 dX2_callOffLast_39 (by decide) (fun c_5 => ?_) (fun c_5 => ?_)
      · refine z_aload_n hC dX2_callOffLast_45 rfl ?_
        refine z_get hC iA_X2 rfl 3 (by decide) qF_X2_26 rfl dX2_callOffLast_46 (cl_desk hb) (cd_desk hb) rfl ?_
        refine z_aload_n hC dX2_callOffLast_49 rfl ?_
        refine z_get hC iA_X6 rfl 7 (by decide) qF_X2_129 rfl dX2_callOffLast_50 (cl_ship hb (by omega)) (cd_ship hb (by omega)) rfl ?_
        refine z_iload_n hC dX2_callOffLast_53 rfl ?_
        refine z_iald hC dX2_callOffLast_54 (cl_fx hb (by omega)) (cd_fx hb (by omega)) (by omega) (by omega) (by decide) ?_
        refine z_top (b := d (11 + k) ((d (6 + k) 6) - 1)) ((vw_fx (by omega) (by omega)).symm.trans (congrFun (congrFun hd _) _)) ?_
        refine z_aald hC dX2_callOffLast_55 3 rfl (cl_cargoes hb) (fun _ i => b + 16 + i) (cd_cargoes hb) (by omega) (by omega) (by decide) ?_
        refine z_callV hC [] 0 rfl dX2_callOffLast_56 (fun l => m_X0_worth l G ca ad _ μ b hb (d (11 + k) ((d (6 + k) 6) - 1)) (by omega)) qM_X2_145 qI_X0_worth qS_X0_worth qi_X0 qC_X0_worth (by decide +kernel) (by decide) (by decide) (cl_cargo hb (by omega)) (cd_cargo hb (by omega)) rfl (Nat.le_of_ble_eq_true rfl) (zk_pure ?_) rfl
        refine z_top (b := d (16 + (d (11 + k) ((d (6 + k) 6) - 1))) 0 * d (16 + (d (11 + k) ((d (6 + k) 6) - 1))) 5) (congr (congrArg HMul.hMul ((vw_cargo (by omega) (by omega)).symm.trans (congrFun (congrFun hd _) _))) ((vw_cargo (by omega) (by omega)).symm.trans (congrFun (congrFun hd _) _))) ?_
        refine z_bipush hC dX2_callOffLast_59 (by decide) ?_
        refine z_callSN hC [.int (iZ (d (16 + (d (11 + k) ((d (6 + k) 6) - 1))) 0 * d (16 + (d (11 + k) ((d (6 + k) 6) - 1))) 5)), .int (iZ 10)] 2 rfl dX2_callOffLast_61 (fun l => m_X7_divideUp l _ _ _ (d (16 + (d (11 + k) ((d (6 + k) 6) - 1))) 0 * d (16 + (d (11 + k) ((d (6 + k) 6) - 1))) 5) 10 (by omega) (by omega)) (by decide +kernel) qT_X7_divideUp qi_X7 qC_X7_divideUp (by decide +kernel) (by decide) (by decide) (Nat.le_of_ble_eq_true rfl) (zk_pure ?_) rfl
        refine z_top (b := sPay d (d (11 + k) (d (6 + k) 6 - 1))) rfl ?_
        refine z_istore hC dX2_callOffLast_64 (by decide) rfl ?_
        refine z_aload_n hC dX2_callOffLast_66 rfl ?_
        refine z_aload_n hC dX2_callOffLast_67 rfl ?_
        refine z_iload_n hC dX2_callOffLast_68 rfl ?_
        refine z_iconst hC dX2_callOffLast_69 ?_
        refine z_callV hC [.ref (ad (b + 6 + k)), .int (iZ ((d (6 + k) 6) - 1)), .int (iZ 0)] 3 rfl dX2_callOffLast_70 (fun l => m_X2_dropFixtures l G ca ad _ μ b hb d hd k ((d (6 + k) 6) - 1) 0 1 hN9 (by omega) (by omega) (by omega) (by omega) (by omega) (fun x hx => hF k (by omega) x (by omega))) qM_X2_141 qI_X2_dropFixtures qS_X2_dropFixtures qi_X2 qC_X2_dropFixtures (by decide +kernel) (by decide) (by decide) (cl_desk hb) (cd_desk hb) rfl (Nat.le_of_ble_eq_true rfl) (zk_void (fun μ6 hμ6 => ?_)) rfl
        obtain ⟨hμ6v, hμ6f⟩ := id hμ6
        obtain ⟨d8, hd8⟩ : ∃ q9 : zM, q9 = zup (sDrop k 0 1 ((d (6 + k) 6) - 1) d) (6 + k) 6 ((d (6 + k) 6) - 1) := ⟨_, rfl⟩
        have hd7 : vw μ6 b = d8 := by rw [hd8]; exact hμ6v
        refine z_aload_n hC dX2_callOffLast_73 rfl ?_
        refine z_dup hC dX2_callOffLast_74 rfl ?_
        refine z_get hC iA_X6 rfl 5 (by decide) qF_X2_152 rfl dX2_callOffLast_75 (cl_ship hb (by omega)) (cd_ship hb (by omega)) rfl ?_
        refine z_top (b := d8 (6 + k) 5) ((vw_ship (by omega) (by omega)).symm.trans (congrFun (congrFun hd7 _) _)) ?_
        refine z_top (b := (sDrop k 0 1 ((d (6 + k) 6) - 1) d) (6 + k) 5) (by rw [hd8, zup_n (by omega)]) ?_
        refine z_top (b := d (6 + k) 5) (by rw [sDrop_o _ _ _ _ _ (by omega) (fun j hj => (hF k (by omega) j (by omega)).1) (by omega)]) ?_
        refine z_iload hC dX2_callOffLast_78 rfl ?_
        refine z_isub hC dX2_callOffLast_80 ?_
        refine z_put hC iA_X6 rfl tyX6 tyX6_ok nmX6 5 (by decide) rfl rfl 5 rfl qF_X2_152 rfl dX2_callOffLast_81 (cl_ship hb (by omega)) (cd_ship hb (by omega)) (fun _ => rfl) (fun _ => Nat.le_of_ble_eq_true rfl) ?_
        refine z_nm (fun μ9 hμ9 => ?_)
        obtain ⟨d11, hd11⟩ : ∃ q9 : zM, q9 = zup d8 (6 + k) 5 ((d (6 + k) 5) - (sPay d (d (11 + k) (d (6 + k) 6 - 1)))) := ⟨_, rfl⟩
        have hd10 : vw μ9 b = d11 := by rw [hμ9, vw_upk (by unfold zrel; omega), hd7, hd11]
        refine z_aload_n hC dX2_callOffLast_84 rfl ?_
        refine z_dup hC dX2_callOffLast_85 rfl ?_
        refine z_get hC iA_X2 rfl 7 (by decide) qF_X2_62 rfl dX2_callOffLast_86 (cl_desk hb) (cd_desk hb) rfl ?_
        refine z_top (b := d11 0 7) ((vw_off).symm.trans (congrFun (congrFun hd10 _) _)) ?_
        refine z_top (b := (sDrop k 0 1 ((d (6 + k) 6) - 1) d) 0 7) (by rw [hd11, zup_n (by omega), hd8, zup_n (by omega)]) ?_
        refine z_top (b := d 0 7) (by rw [sDrop_o _ _ _ _ _ (by omega) (fun j hj => (hF k (by omega) j (by omega)).1) (by omega)]) ?_
        refine z_iconst hC dX2_callOffLast_89 ?_
        refine z_iadd hC dX2_callOffLast_90 ?_
        refine z_put hC iA_X2 rfl tyX2 tyX2_ok nmX2 7 (by decide) rfl rfl 7 rfl qF_X2_62 rfl dX2_callOffLast_91 (cl_desk hb) (cd_desk hb) (fun _ => rfl) (fun _ => Nat.le_of_ble_eq_true rfl) ?_
        refine z_nm (fun μ12 hμ12 => ?_)
        obtain ⟨d14, hd14⟩ : ∃ q9 : zM, q9 = zup d11 0 7 ((d 0 7) + 1) := ⟨_, rfl⟩
        have hd13 : vw μ12 b = d14 := by rw [hμ12, vw_up0 (by unfold zrel; omega), hd10, hd14]
        refine z_iload hC dX2_callOffLast_94 rfl ?_
        have e9 : opOff d k = (sPay d (d (11 + k) (d (6 + k) 6 - 1)), zup (zup (zup (sDrop k 0 1 ((d (6 + k) 6) - 1) d) (6 + k) 6 ((d (6 + k) 6) - 1)) (6 + k) 5 ((d (6 + k) 5) - (sPay d (d (11 + k) (d (6 + k) 6 - 1))))) 0 7 ((d 0 7) + 1)) := by
          unfold opOff
          rw [if_neg (by omega), if_neg (by omega)]
        exact z_iret hC dX2_callOffLast_96 ⟨by rw [e9], by rw [e9, hd13, hd14, hd11, hd8], fun c9 hc9 => by rw [hμ12, zup_o (by omega), hμ9, zup_o (by omega), hμ6f c9 (by omega)]⟩
      · exfalso; omega
  · refine z_ldc hC (-1000001) qc_X2_73 rfl dX2_callOffLast_8 ?_
    have e9 : opOff d k = ((-1000001), d) := by
      unfold opOff
      rw [if_pos (by omega)]
    exact z_iret hC dX2_callOffLast_10 ⟨by rw [e9], by rw [e9, hd], fun c9 hc9 => rfl⟩

set_option maxHeartbeats 4000000 in
set_option maxRecDepth 100000 in
/-- opSettle d k -/
theorem m_X2_settleShip (l : Launch) (G : va_G) (ca : Nat → ClassId) (ad : Int → Nat) (A : Nat → Prop) (μ : zM) (b : Int) (hb : zb b) (d : zM) (hd : vw μ b = d) (k : Int) (hk : -2147483648 ≤ k ∧ k ≤ 2147483647) (hB : bD d) (hG : ∀ k, 0 ≤ k ∧ k < d 0 4 → zGo d k (sNum d k)) (hF : ∀ k, 0 ≤ k ∧ k < d 0 4 → ∀ x, 0 ≤ x ∧ x < d (6 + k) 6 → 0 ≤ d (11 + k) x ∧ d (11 + k) x < d 0 5) : zMet l (cω G ca ad) A yX2_settleShip cX2_settleShip 3 (some .int) 4 111 [.ref (ad b), .int (iZ k)] μ (zpI (.int (iZ (opSettle d k).1)) (fun μ' => vw μ' b = (opSettle d k).2 ∧ zFd μ b μ')) := by
  refine zMet_of (by decide) (Nat.le_of_ble_eq_true rfl) (fun Γ hC => ?_)
  show Z Γ _ μ 0 [(0, .ref (ad b)), (1, .int (iZ k))] []
  obtain ⟨hN, hP, hB3, hB4⟩ := id hB
  obtain ⟨hN1, hN2⟩ := id hN
  refine z_aload_n hC dX2_settleShip_0 rfl ?_
  refine z_iload_n hC dX2_settleShip_1 rfl ?_
  have hN1 : μ b 4 = d 0 4 := by rw [← hd, vw_S]
  refine z_callV hC [.int (iZ k)] 1 rfl dX2_settleShip_2 (fun l => m_X2_isShip l G ca ad _ μ b hb k (by omega) (by omega)) qM_X2_113 qI_X2_isShip qS_X2_isShip qi_X2 qC_X2_isShip (by decide +kernel) (by decide) (by decide) (cl_desk hb) (cd_desk hb) rfl (Nat.le_of_ble_eq_true rfl) (zk_pure ?_) rfl
  rw [hN1]
  refine z_ifb_ne hC 11 dX2_settleShip_5 (by decide) (fun c_2 => ?_) (fun c_2 => ?_)
  · obtain ⟨hs0, hs1, hs2, hs3, hs4, hs6⟩ := hB3 k (by omega)
    refine z_aload_n hC dX2_settleShip_11 rfl ?_
    refine z_get hC iA_X2 rfl 2 (by decide) qF_X2_20 rfl dX2_settleShip_12 (cl_desk hb) (cd_desk hb) rfl ?_
    refine z_iload_n hC dX2_settleShip_15 rfl ?_
    refine z_aald hC dX2_settleShip_16 2 rfl (cl_ships hb) (fun _ i => b + 6 + i) (cd_ships hb) (by omega) (by omega) (by decide) ?_
    refine z_astore_n hC dX2_settleShip_17 (by decide) rfl ?_
    refine z_aload_n hC dX2_settleShip_18 rfl ?_
    refine z_get hC iA_X6 rfl 6 (by decide) qF_X2_126 rfl dX2_settleShip_19 (cl_ship hb (by omega)) (cd_ship hb (by omega)) rfl ?_
    refine z_top (b := d (6 + k) 6) ((vw_ship (by omega) (by omega)).symm.trans (congrFun (congrFun hd _) _)) ?_
    refine z_if_ne hC 28 dX2_settleShip_22 (by decide) (by omega) (fun c_3 => ?_) (fun c_3 => ?_)
    · refine z_aload_n hC dX2_settleShip_28 rfl ?_
      refine z_iload_n hC dX2_settleShip_29 rfl ?_
      refine z_callV hC [.int (iZ k)] 1 rfl dX2_settleShip_30 (fun l => m_X2_followAll l G ca ad _ μ b hb d hd k hB (by omega) (hG _ (by omega))) qM_X2_155 qI_X2_followAll qS_X2_followAll qi_X2 qC_X2_followAll (by decide +kernel) (by decide) (by decide) (cl_desk hb) (cd_desk hb) rfl (Nat.le_of_ble_eq_true rfl) (zk_int (fun μ4 hμ4 => ?_)) rfl
      obtain ⟨hμ4f, hμ40, hμ41, hμ46, hμ4m⟩ := id hμ4
      have hμ40 : μ4 (b + 5) 0 = (sEnd d k).1 := hμ40
      have hμ41 : μ4 (b + 5) 1 = (sEnd d k).2.1 := hμ41
      have hμ46 : μ4 (b + 5) 6 = (sEnd d k).2.2 := hμ46
      have hd5 : vw μ4 b = d := by rw [vw_fr5 hμ4f]; exact hd
      refine z_pop hC dX2_settleShip_33 rfl ?_
      refine z_aload_n hC dX2_settleShip_34 rfl ?_
      refine z_dup hC dX2_settleShip_35 rfl ?_
      refine z_get hC iA_X6 rfl 5 (by decide) qF_X2_152 rfl dX2_settleShip_36 (cl_ship hb (by omega)) (cd_ship hb (by omega)) rfl ?_
      refine z_top (b := d (6 + k) 5) ((vw_ship (by omega) (by omega)).symm.trans (congrFun (congrFun hd5 _) _)) ?_
      refine z_aload_n hC dX2_settleShip_39 rfl ?_
      refine z_get hC iA_X2 rfl 8 (by decide) qF_X2_33 rfl dX2_settleShip_40 (cl_desk hb) (cd_desk hb) rfl ?_
      refine z_get hC iA_X1 rfl 6 (by decide) qF_X2_159 rfl dX2_settleShip_43 (cl_course hb) (cd_course hb) rfl ?_
      refine z_top (b := (sEnd d k).2.2) (by rw [hμ46]) ?_
      refine z_iadd hC dX2_settleShip_46 ?_
      refine z_put hC iA_X6 rfl tyX6 tyX6_ok nmX6 5 (by decide) rfl rfl 5 rfl qF_X2_152 rfl dX2_settleShip_47 (cl_ship hb (by omega)) (cd_ship hb (by omega)) (fun _ => rfl) (fun _ => Nat.le_of_ble_eq_true rfl) ?_
      refine z_nm (fun μ6 hμ6 => ?_)
      obtain ⟨d8, hd8⟩ : ∃ q9 : zM, q9 = zup d (6 + k) 5 ((d (6 + k) 5) + ((sEnd d k).2.2)) := ⟨_, rfl⟩
      have hd7 : vw μ6 b = d8 := by rw [hμ6, vw_upk (by unfold zrel; omega), hd5, hd8]
      refine z_aload_n hC dX2_settleShip_50 rfl ?_
      refine z_aload_n hC dX2_settleShip_51 rfl ?_
      refine z_get hC iA_X2 rfl 8 (by decide) qF_X2_33 rfl dX2_settleShip_52 (cl_desk hb) (cd_desk hb) rfl ?_
      refine z_get hC iA_X1 rfl 0 (by decide) qF_X2_162 rfl dX2_settleShip_55 (cl_course hb) (cd_course hb) rfl ?_
      refine z_top (b := (sEnd d k).1) (by rw [hμ6, zup_n (by omega), hμ40]) ?_
      refine z_put hC iA_X6 rfl tyX6 tyX6_ok nmX6 3 (by decide) rfl rfl 3 rfl qF_X2_89 rfl dX2_settleShip_58 (cl_ship hb (by omega)) (cd_ship hb (by omega)) (fun _ => rfl) (fun _ => Nat.le_of_ble_eq_true rfl) ?_
      refine z_nm (fun μ9 hμ9 => ?_)
      obtain ⟨d11, hd11⟩ : ∃ q9 : zM, q9 = zup d8 (6 + k) 3 ((sEnd d k).1) := ⟨_, rfl⟩
      have hd10 : vw μ9 b = d11 := by rw [hμ9, vw_upk (by unfold zrel; omega), hd7, hd11]
      refine z_aload_n hC dX2_settleShip_61 rfl ?_
      refine z_aload_n hC dX2_settleShip_62 rfl ?_
      refine z_get hC iA_X2 rfl 8 (by decide) qF_X2_33 rfl dX2_settleShip_63 (cl_desk hb) (cd_desk hb) rfl ?_
      refine z_get hC iA_X1 rfl 1 (by decide) qF_X2_135 rfl dX2_settleShip_66 (cl_course hb) (cd_course hb) rfl ?_
      refine z_top (b := (sEnd d k).2.1) (by rw [hμ9, zup_n (by omega), hμ6, zup_n (by omega), hμ41]) ?_
      refine z_put hC iA_X6 rfl tyX6 tyX6_ok nmX6 4 (by decide) rfl rfl 4 rfl qF_X2_92 rfl dX2_settleShip_69 (cl_ship hb (by omega)) (cd_ship hb (by omega)) (fun _ => rfl) (fun _ => Nat.le_of_ble_eq_true rfl) ?_
      refine z_nm (fun μ12 hμ12 => ?_)
      obtain ⟨d14, hd14⟩ : ∃ q9 : zM, q9 = zup d11 (6 + k) 4 ((sEnd d k).2.1) := ⟨_, rfl⟩
      have hd13 : vw μ12 b = d14 := by rw [hμ12, vw_upk (by unfold zrel; omega), hd10, hd14]
      have eo : ∀ o i, (o ≠ 6 + k ∨ (i ≠ 3 ∧ i ≠ 4 ∧ i ≠ 5)) → d14 o i = d o i := fun o i q => by rw [hd14, zup_n (by omega), hd11, zup_n (by omega), hd8, zup_n (by omega)]
      have hN9 : bN d14 := by unfold bN; rw [eo 0 4 (by omega), eo 0 5 (by omega)]; exact hN
      have hf6 : d14 (6 + k) 6 = d (6 + k) 6 := eo _ _ (by omega)
      have hNe := sNum_e (d := d) (k := k) (by omega)
      refine z_aload_n hC dX2_settleShip_72 rfl ?_
      refine z_aload_n hC dX2_settleShip_73 rfl ?_
      refine z_iconst hC dX2_settleShip_74 ?_
      refine z_iconst hC dX2_settleShip_75 ?_
      refine z_callV hC [.ref (ad (b + 6 + k)), .int (iZ 0), .int (iZ 2)] 3 rfl dX2_settleShip_76 (fun l => m_X2_dropFixtures l G ca ad _ μ12 b hb d14 hd13 k 0 2 (sNum d k) hN9 (by omega) (by omega) (by omega) (by omega) (by omega) (fun x hx => by rw [eo (11 + k) x (by omega), eo 0 5 (by omega)]; exact hF k (by omega) x (by omega))) qM_X2_141 qI_X2_dropFixtures qS_X2_dropFixtures qi_X2 qC_X2_dropFixtures (by decide +kernel) (by decide) (by decide) (cl_desk hb) (cd_desk hb) rfl (Nat.le_of_ble_eq_true rfl) (zk_void (fun μ15 hμ15 => ?_)) rfl
      obtain ⟨hμ15v, hμ15f⟩ := id hμ15
      obtain ⟨d17, hd17⟩ : ∃ q9 : zM, q9 = zup (sDrop k 2 (sNum d k) 0 d14) (6 + k) 6 0 := ⟨_, rfl⟩
      have hd16 : vw μ15 b = d17 := by rw [hd17]; exact hμ15v
      refine z_aload_n hC dX2_settleShip_79 rfl ?_
      refine z_get hC iA_X2 rfl 8 (by decide) qF_X2_33 rfl dX2_settleShip_80 (cl_desk hb) (cd_desk hb) rfl ?_
      refine z_get hC iA_X1 rfl 6 (by decide) qF_X2_159 rfl dX2_settleShip_83 (cl_course hb) (cd_course hb) rfl ?_
      refine z_top (b := (sEnd d k).2.2) (by rw [hμ15f (b + 5) (by omega), hμ12, zup_n (by omega), hμ9, zup_n (by omega), hμ6, zup_n (by omega), hμ46]) ?_
      refine z_ldc hC (1000000) qc_X2_165 rfl dX2_settleShip_86 ?_
      refine z_iadd hC dX2_settleShip_88 ?_
      have e9 : opSettle d k = (((sEnd d k).2.2) + (1000000), zup (sDrop k 2 (sNum d k) 0 d14) (6 + k) 6 0) := by
        unfold opSettle
        rw [if_neg (by omega), if_neg (by omega)]
        rw [hd14, hd11, hd8]
      exact z_iret hC dX2_settleShip_89 ⟨by rw [e9], by rw [e9, hd16, hd17, hd14, hd11, hd8], fun c9 hc9 => by rw [hμ15f c9 (by omega), hμ12, zup_o (by omega), hμ9, zup_o (by omega), hμ6, zup_o (by omega), hμ4f c9 (by omega)]⟩
    · refine z_ldc hC (-1000002) qc_X2_78 rfl dX2_settleShip_25 ?_
      have e9 : opSettle d k = ((-1000002), d) := by
        unfold opSettle
        rw [if_neg (by omega), if_pos (by omega)]
      exact z_iret hC dX2_settleShip_27 ⟨by rw [e9], by rw [e9, hd], fun c9 hc9 => rfl⟩
  · refine z_ldc hC (-1000001) qc_X2_73 rfl dX2_settleShip_8 ?_
    have e9 : opSettle d k = ((-1000001), d) := by
      unfold opSettle
      rw [if_pos (by omega)]
    exact z_iret hC dX2_settleShip_10 ⟨by rw [e9], by rw [e9, hd], fun c9 hc9 => rfl⟩

set_option maxHeartbeats 4000000 in
set_option maxRecDepth 100000 in
/-- opDelay d k n -/
theorem m_X2_delayShip (l : Launch) (G : va_G) (ca : Nat → ClassId) (ad : Int → Nat) (A : Nat → Prop) (μ : zM) (b : Int) (hb : zb b) (d : zM) (hd : vw μ b = d) (k n : Int) (hk : -2147483648 ≤ k ∧ k ≤ 2147483647) (hn : -2147483648 ≤ n ∧ n ≤ 2147483647) (hB : bD d) (hF : ∀ k, 0 ≤ k ∧ k < d 0 4 → ∀ x, 0 ≤ x ∧ x < d (6 + k) 6 → 0 ≤ d (11 + k) x ∧ d (11 + k) x < d 0 5) : zMet l (cω G ca ad) A yX2_delayShip cX2_delayShip 6 (some .int) 3 89 [.ref (ad b), .int (iZ k), .int (iZ n)] μ (zpI (.int (iZ (opDelay d k n).1)) (fun μ' => vw μ' b = (opDelay d k n).2 ∧ zFd μ b μ')) := by
  refine zMet_of (by decide) (Nat.le_of_ble_eq_true rfl) (fun Γ hC => ?_)
  show Z Γ _ μ 0 [(0, .ref (ad b)), (1, .int (iZ k)), (2, .int (iZ n))] []
  obtain ⟨hN, hP, hB3, hB4⟩ := id hB
  obtain ⟨hN1, hN2⟩ := id hN
  refine z_aload_n hC dX2_delayShip_0 rfl ?_
  refine z_iload_n hC dX2_delayShip_1 rfl ?_
  have hN1 : μ b 4 = d 0 4 := by rw [← hd, vw_S]
  refine z_callV hC [.int (iZ k)] 1 rfl dX2_delayShip_2 (fun l => m_X2_isShip l G ca ad _ μ b hb k (by omega) (by omega)) qM_X2_113 qI_X2_isShip qS_X2_isShip qi_X2 qC_X2_isShip (by decide +kernel) (by decide) (by decide) (cl_desk hb) (cd_desk hb) rfl (Nat.le_of_ble_eq_true rfl) (zk_pure ?_) rfl
  rw [hN1]
  refine z_ifb_eq hC 18 dX2_delayShip_5 (by decide) (fun c_2 => ?_) (fun c_2 => ?_)
  · refine z_ldc hC (-1000001) qc_X2_73 rfl dX2_delayShip_18 ?_
    have e9 : opDelay d k n = ((-1000001), d) := by
      unfold opDelay
      rw [if_pos (by omega)]
    exact z_iret hC dX2_delayShip_20 ⟨by rw [e9], by rw [e9, hd], fun c9 hc9 => rfl⟩
  · refine z_iload_n hC dX2_delayShip_8 rfl ?_
    refine z_iconst hC dX2_delayShip_9 ?_
    refine z_bipush hC dX2_delayShip_10 (by decide) ?_
    refine z_callSN hC [.int (iZ n), .int (iZ 1), .int (iZ 99)] 3 rfl dX2_delayShip_12 (fun l => m_X7_isIn l _ _ _ n 1 99 (by omega) (by omega) (by omega)) (by decide +kernel) qT_X7_isIn qi_X7 qC_X7_isIn (by decide +kernel) (by decide) (by decide) (Nat.le_of_ble_eq_true rfl) (zk_pure ?_) rfl
    refine z_ifb_ne hC 21 dX2_delayShip_15 (by decide) (fun c_3 => ?_) (fun c_3 => ?_)
    · obtain ⟨hs0, hs1, hs2, hs3, hs4, hs6⟩ := hB3 k (by omega)
      refine z_aload_n hC dX2_delayShip_21 rfl ?_
      refine z_get hC iA_X2 rfl 2 (by decide) qF_X2_20 rfl dX2_delayShip_22 (cl_desk hb) (cd_desk hb) rfl ?_
      refine z_iload_n hC dX2_delayShip_25 rfl ?_
      refine z_aald hC dX2_delayShip_26 2 rfl (cl_ships hb) (fun _ i => b + 6 + i) (cd_ships hb) (by omega) (by omega) (by decide) ?_
      refine z_astore_n hC dX2_delayShip_27 (by decide) rfl ?_
      refine z_aload_n hC dX2_delayShip_28 rfl ?_
      refine z_get hC iA_X6 rfl 4 (by decide) qF_X2_92 rfl dX2_delayShip_29 (cl_ship hb (by omega)) (cd_ship hb (by omega)) rfl ?_
      refine z_top (b := d (6 + k) 4) ((vw_ship (by omega) (by omega)).symm.trans (congrFun (congrFun hd _) _)) ?_
      refine z_iload_n hC dX2_delayShip_32 rfl ?_
      refine z_iadd hC dX2_delayShip_33 ?_
      refine z_sipush hC dX2_delayShip_34 (by decide) ?_
      refine z_icmp_le hC 43 dX2_delayShip_37 (by decide) (by omega) (by omega) (fun c_4 => ?_) (fun c_4 => ?_)
      · refine z_aload_n hC dX2_delayShip_43 rfl ?_
        refine z_dup hC dX2_delayShip_44 rfl ?_
        refine z_get hC iA_X6 rfl 4 (by decide) qF_X2_92 rfl dX2_delayShip_45 (cl_ship hb (by omega)) (cd_ship hb (by omega)) rfl ?_
        refine z_top (b := d (6 + k) 4) ((vw_ship (by omega) (by omega)).symm.trans (congrFun (congrFun hd _) _)) ?_
        refine z_iload_n hC dX2_delayShip_48 rfl ?_
        refine z_iadd hC dX2_delayShip_49 ?_
        refine z_put hC iA_X6 rfl tyX6 tyX6_ok nmX6 4 (by decide) rfl rfl 4 rfl qF_X2_92 rfl dX2_delayShip_50 (cl_ship hb (by omega)) (cd_ship hb (by omega)) (fun _ => rfl) (fun _ => Nat.le_of_ble_eq_true rfl) ?_
        refine z_nm (fun μ5 hμ5 => ?_)
        obtain ⟨d7, hd7⟩ : ∃ q9 : zM, q9 = zup d (6 + k) 4 ((d (6 + k) 4) + n) := ⟨_, rfl⟩
        have hd6 : vw μ5 b = d7 := by rw [hμ5, vw_upk (by unfold zrel; omega), hd, hd7]
        have hL : d7 = sLater d k n := hd7
        refine z_aload_n hC dX2_delayShip_53 rfl ?_
        refine z_get hC iA_X6 rfl 6 (by decide) qF_X2_126 rfl dX2_delayShip_54 (cl_ship hb (by omega)) (cd_ship hb (by omega)) rfl ?_
        refine z_top (b := d7 (6 + k) 6) ((vw_ship (by omega) (by omega)).symm.trans (congrFun (congrFun hd6 _) _)) ?_
        refine z_top (b := d (6 + k) 6) (by rw [hd7, zup_n (by omega)]) ?_
        refine z_istore hC dX2_delayShip_57 (by decide) rfl ?_
        refine z_aload_n hC dX2_delayShip_59 rfl ?_
        refine z_aload_n hC dX2_delayShip_60 rfl ?_
        refine z_aload_n hC dX2_delayShip_61 rfl ?_
        refine z_iload_n hC dX2_delayShip_62 rfl ?_
        have hB9 : bD d7 := by rw [hd7]; exact bD_later hB (by omega) (by omega) (by omega)
        have eo : ∀ o i, (o ≠ 6 + k ∨ i ≠ 4) → d7 o i = d o i := fun o i q => by rw [hd7, zup_n (by omega)]
        have hS9 : d7 0 4 = d 0 4 := eo _ _ (by omega)
        have hC9 : d7 0 5 = d 0 5 := eo _ _ (by omega)
        have hf6 : d7 (6 + k) 6 = d (6 + k) 6 := eo _ _ (by omega)
        have hNn : sNum d7 k = sNum d k := by unfold sNum; rw [hf6]
        have hNe := sNum_e (d := d) (k := k) (by omega)
        have hI9 := sInT_b d7 k
        have hN9 := hB9.1
        refine z_callV hC [.int (iZ k)] 1 rfl dX2_delayShip_63 (fun l => m_X2_fixturesInTime l G ca ad _ μ5 b hb d7 hd6 k hB9 (by omega) (fun n hn => by rw [eo (11 + k) _ (by omega), hC9]; exact hF k (by omega) _ (by omega))) qM_X2_138 qI_X2_fixturesInTime qS_X2_fixturesInTime qi_X2 qC_X2_fixturesInTime (by decide +kernel) (by decide) (by decide) (cl_desk hb) (cd_desk hb) rfl (Nat.le_of_ble_eq_true rfl) (zk_int (fun μ8 hμ8 => ?_)) rfl
        have hd9 : vw μ8 b = d7 := by rw [vw_fr5 hμ8]; exact hd6
        refine z_iconst hC dX2_delayShip_66 ?_
        refine z_callV hC [.ref (ad (b + 6 + k)), .int (iZ ((sInT d7 k : Nat) : Int)), .int (iZ 2)] 3 rfl dX2_delayShip_67 (fun l => m_X2_dropFixtures l G ca ad _ μ8 b hb d7 hd9 k ((sInT d7 k : Nat) : Int) 2 (sNum d k - sInT d7 k) hN9 (by omega) (by omega) (by omega) (by omega) (by omega) (fun x hx => by rw [eo (11 + k) x (by omega), hC9]; exact hF k (by omega) x (by omega))) qM_X2_141 qI_X2_dropFixtures qS_X2_dropFixtures qi_X2 qC_X2_dropFixtures (by decide +kernel) (by decide) (by decide) (cl_desk hb) (cd_desk hb) rfl (Nat.le_of_ble_eq_true rfl) (zk_void (fun μ10 hμ10 => ?_)) rfl
        obtain ⟨hμ10v, hμ10f⟩ := id hμ10
        obtain ⟨d12, hd12⟩ : ∃ q9 : zM, q9 = zup (sDrop k 2 (sNum d k - sInT d7 k) ((sInT d7 k : Nat) : Int) d7) (6 + k) 6 ((sInT d7 k : Nat) : Int) := ⟨_, rfl⟩
        have hd11 : vw μ10 b = d12 := by rw [hd12]; exact hμ10v
        refine z_iload hC dX2_delayShip_70 rfl ?_
        refine z_aload_n hC dX2_delayShip_72 rfl ?_
        refine z_get hC iA_X6 rfl 6 (by decide) qF_X2_126 rfl dX2_delayShip_73 (cl_ship hb (by omega)) (cd_ship hb (by omega)) rfl ?_
        refine z_top (b := d12 (6 + k) 6) ((vw_ship (by omega) (by omega)).symm.trans (congrFun (congrFun hd11 _) _)) ?_
        refine z_top (b := ((sInT d7 k : Nat) : Int)) (by rw [hd12, zup_s]) ?_
        refine z_isub hC dX2_delayShip_76 ?_
        refine z_istore hC dX2_delayShip_77 (by decide) rfl ?_
        refine z_aload_n hC dX2_delayShip_79 rfl ?_
        refine z_dup hC dX2_delayShip_80 rfl ?_
        refine z_get hC iA_X2 rfl 6 (by decide) qF_X2_59 rfl dX2_delayShip_81 (cl_desk hb) (cd_desk hb) rfl ?_
        refine z_top (b := d12 0 6) ((vw_can).symm.trans (congrFun (congrFun hd11 _) _)) ?_
        refine z_top (b := (sDrop k 2 (sNum d k - sInT d7 k) ((sInT d7 k : Nat) : Int) d7) 0 6) (by rw [hd12, zup_n (by omega)]) ?_
        refine z_top (b := d 0 6) (by rw [sDrop_o _ _ _ _ _ (by omega) (fun j hj => by rw [eo (11 + k) _ (by omega)]; exact (hF k (by omega) j (by omega)).1) (by omega), eo 0 6 (by omega)]) ?_
        refine z_iload hC dX2_delayShip_84 rfl ?_
        refine z_iadd hC dX2_delayShip_86 ?_
        refine z_put hC iA_X2 rfl tyX2 tyX2_ok nmX2 6 (by decide) rfl rfl 6 rfl qF_X2_59 rfl dX2_delayShip_87 (cl_desk hb) (cd_desk hb) (fun _ => rfl) (fun _ => Nat.le_of_ble_eq_true rfl) ?_
        refine z_nm (fun μ13 hμ13 => ?_)
        obtain ⟨d15, hd15⟩ : ∃ q9 : zM, q9 = zup d12 0 6 ((d 0 6) + ((d (6 + k) 6) - ((sInT d7 k : Nat) : Int))) := ⟨_, rfl⟩
        have hd14 : vw μ13 b = d15 := by rw [hμ13, vw_up0 (by unfold zrel; omega), hd11, hd15]
        refine z_iload hC dX2_delayShip_90 rfl ?_
        have e9 : opDelay d k n = ((d (6 + k) 6) - ((sInT d7 k : Nat) : Int), zup (zup (sDrop k 2 (sNum d k - sInT d7 k) ((sInT d7 k : Nat) : Int) d7) (6 + k) 6 ((sInT d7 k : Nat) : Int)) 0 6 ((d 0 6) + ((d (6 + k) 6) - ((sInT d7 k : Nat) : Int)))) := by
          unfold opDelay
          rw [if_neg (by omega), if_neg (by omega), ← hL]
        exact z_iret hC dX2_delayShip_92 ⟨by rw [e9], by rw [e9, hd14, hd15, hd12], fun c9 hc9 => by rw [hμ13, zup_o (by omega), hμ10f c9 (by omega), hμ8 c9 (by omega), hμ5, zup_o (by omega)]⟩
      · refine z_ldc hC (-1000003) qc_X2_79 rfl dX2_delayShip_40 ?_
        have e9 : opDelay d k n = ((-1000003), d) := by
          unfold opDelay
          rw [if_neg (by omega), if_pos (by omega)]
        exact z_iret hC dX2_delayShip_42 ⟨by rw [e9], by rw [e9, hd], fun c9 hc9 => rfl⟩
    · refine z_ldc hC (-1000001) qc_X2_73 rfl dX2_delayShip_18 ?_
      have e9 : opDelay d k n = ((-1000001), d) := by
        unfold opDelay
        rw [if_pos (by omega)]
      exact z_iret hC dX2_delayShip_20 ⟨by rw [e9], by rw [e9, hd], fun c9 hc9 => rfl⟩
end
section
/-- desk b is being made like desk b2: its ports, nS ships, nC cargoes are -/
def zCp (μ : zM) (b b2 : Int) (nS nC : Int) (μ1 : zM) : Prop := zFd μ b μ1 ∧ ∀ o i, zrel o i → ((1 ≤ o ∧ o ≤ 2) ∨ (6 ≤ o ∧ o < 6 + nS) ∨ (11 ≤ o ∧ o < 11 + nS) ∨ (16 ≤ o ∧ o < 16 + nC)) → μ1 (b + o) i = μ (b2 + o) i
theorem zCp_ship {μ μ1 μ2 : zM} {b b2 n nC : Int} (hbb : b2 + 26 ≤ b ∨ b + 26 ≤ b2) (hn : 0 ≤ n ∧ n < 5) (h : zCp μ b b2 n nC μ1)
    (h1 : ∀ c i, c ≠ b + 6 + n → c ≠ b + 11 + n → μ2 c i = μ1 c i) (h2 : ∀ i, 0 ≤ i ∧ i < 7 → μ2 (b + 6 + n) i = μ1 (b2 + 6 + n) i) (h3 : ∀ i, 0 ≤ i ∧ i < 10 → μ2 (b + 11 + n) i = μ1 (b2 + 11 + n) i) : zCp μ b b2 (n + 1) nC μ2 := by
  refine ⟨fun c hc => ?_, fun o i hr ho => ?_⟩
  · funext i
    rw [h1 c i (by omega) (by omega), h.1 c hc]
  · by_cases e1 : o = 6 + n
    · unfold zrel at hr
      rw [e1, ← Int.add_assoc, h2 i (by omega), h.1 _ (by omega), ← Int.add_assoc]
    · by_cases e2 : o = 11 + n
      · unfold zrel at hr
        rw [e2, ← Int.add_assoc, h3 i (by omega), h.1 _ (by omega), ← Int.add_assoc]
      · rw [h1 _ i (by omega) (by omega)]
        exact h.2 o i hr (by omega)
theorem zCp_cargo {μ μ1 μ2 : zM} {b b2 n nS : Int} (hbb : b2 + 26 ≤ b ∨ b + 26 ≤ b2) (hn : 0 ≤ n ∧ n < 10) (hS : nS ≤ 5) (h : zCp μ b b2 nS n μ1)
    (h1 : ∀ c i, c ≠ b + 16 + n → μ2 c i = μ1 c i) (h2 : ∀ i, 0 ≤ i ∧ i < 8 → μ2 (b + 16 + n) i = μ1 (b2 + 16 + n) i) : zCp μ b b2 nS (n + 1) μ2 := by
  refine ⟨fun c hc => ?_, fun o i hr ho => ?_⟩
  · funext i
    rw [h1 c i (by omega), h.1 c hc]
  · by_cases e1 : o = 16 + n
    · unfold zrel at hr
      rw [e1, ← Int.add_assoc, h2 i (by omega), h.1 _ (by omega), ← Int.add_assoc]
    · rw [h1 _ i (by omega)]
      exact h.2 o i hr (by omega)
theorem zCp_all {μ μ1 μ2 : zM} {b b2 : Int} (h : zCp μ b b2 5 10 μ1) (h1 : ∀ c, c ≠ b → μ2 c = μ1 c) (h2 : ∀ i, 4 ≤ i ∧ i < 8 → μ2 b i = μ b2 i) : vw μ2 b = vw μ b2 ∧ zFd μ b μ2 := by
  constructor
  · refine vw_eq (fun o i hr => ?_)
    by_cases e : o = 0
    · subst e
      unfold zrel at hr
      rw [Int.add_zero, Int.add_zero, h2 i (by omega)]
    · rw [h1 _ (by omega)]
      exact h.2 o i hr (by unfold zrel at hr; omega)
  · intro c hc
    rw [h1 c (by omega), h.1 c hc]
end
section
set_option maxHeartbeats 4000000 in
set_option maxRecDepth 100000 in
/-- Ship.copyFrom(other) -/
theorem m_X6_copyFrom (l : Launch) (G : va_G) (ca : Nat → ClassId) (ad : Int → Nat) (A : Nat → Prop) (μ : zM) (b b2 : Int) (hb : zb b) (hb2 : zb b2) (hbb : b2 + 26 ≤ b ∨ b + 26 ≤ b2) (k : Int) (hk : 0 ≤ k ∧ k < 5) : zMet l (cω G ca ad) A yX6_copyFrom cX6_copyFrom 2 none 1 40 [.ref (ad (b + 6 + k)), .ref (ad (b2 + 6 + k))] μ (zpV (fun μ' => (∀ c i, c ≠ b + 6 + k → c ≠ b + 11 + k → μ' c i = μ c i) ∧ (∀ i, 0 ≤ i ∧ i < 7 → μ' (b + 6 + k) i = μ (b2 + 6 + k) i) ∧ (∀ i, 0 ≤ i ∧ i < 10 → μ' (b + 11 + k) i = μ (b2 + 11 + k) i))) := by
  refine zMet_of (by decide) (Nat.le_of_ble_eq_true rfl) (fun Γ hC => ?_)
  show Z Γ _ μ 0 [(0, .ref (ad (b + 6 + k))), (1, .ref (ad (b2 + 6 + k)))] []
  refine z_aload_n hC dX6_copyFrom_0 rfl ?_
  refine z_aload_n hC dX6_copyFrom_1 rfl ?_
  refine z_get hC iA_X6 rfl 0 (by decide) qF_X6_15 rfl dX6_copyFrom_2 (cl_ship hb2 (by omega)) (cd_ship hb2 (by omega)) rfl ?_
  refine z_put hC iA_X6 rfl tyX6 tyX6_ok nmX6 0 (by decide) rfl rfl 0 rfl qF_X6_15 rfl dX6_copyFrom_5 (cl_ship hb (by omega)) (cd_ship hb (by omega)) (fun _ => rfl) (fun _ => Nat.le_of_ble_eq_true rfl) ?_
  refine z_nm (fun μ1 hμ1 => ?_)
  refine z_aload_n hC dX6_copyFrom_8 rfl ?_
  refine z_aload_n hC dX6_copyFrom_9 rfl ?_
  refine z_get hC iA_X6 rfl 1 (by decide) qF_X6_19 rfl dX6_copyFrom_10 (cl_ship hb2 (by omega)) (cd_ship hb2 (by omega)) rfl ?_
  refine z_top (b := μ (b2 + 6 + k) 1) (by rw [hμ1, zup_n (by omega)]) ?_
  refine z_put hC iA_X6 rfl tyX6 tyX6_ok nmX6 1 (by decide) rfl rfl 1 rfl qF_X6_19 rfl dX6_copyFrom_13 (cl_ship hb (by omega)) (cd_ship hb (by omega)) (fun _ => rfl) (fun _ => Nat.le_of_ble_eq_true rfl) ?_
  refine z_nm (fun μ2 hμ2 => ?_)
  refine z_aload_n hC dX6_copyFrom_16 rfl ?_
  refine z_aload_n hC dX6_copyFrom_17 rfl ?_
  refine z_get hC iA_X6 rfl 2 (by decide) qF_X6_22 rfl dX6_copyFrom_18 (cl_ship hb2 (by omega)) (cd_ship hb2 (by omega)) rfl ?_
  refine z_top (b := μ (b2 + 6 + k) 2) (by rw [hμ2, zup_n (by omega), hμ1, zup_n (by omega)]) ?_
  refine z_put hC iA_X6 rfl tyX6 tyX6_ok nmX6 2 (by decide) rfl rfl 2 rfl qF_X6_22 rfl dX6_copyFrom_21 (cl_ship hb (by omega)) (cd_ship hb (by omega)) (fun _ => rfl) (fun _ => Nat.le_of_ble_eq_true rfl) ?_
  refine z_nm (fun μ3 hμ3 => ?_)
  refine z_aload_n hC dX6_copyFrom_24 rfl ?_
  refine z_aload_n hC dX6_copyFrom_25 rfl ?_
  refine z_get hC iA_X6 rfl 3 (by decide) qF_X6_25 rfl dX6_copyFrom_26 (cl_ship hb2 (by omega)) (cd_ship hb2 (by omega)) rfl ?_
  refine z_top (b := μ (b2 + 6 + k) 3) (by rw [hμ3, zup_n (by omega), hμ2, zup_n (by omega), hμ1, zup_n (by omega)]) ?_
  refine z_put hC iA_X6 rfl tyX6 tyX6_ok nmX6 3 (by decide) rfl rfl 3 rfl qF_X6_25 rfl dX6_copyFrom_29 (cl_ship hb (by omega)) (cd_ship hb (by omega)) (fun _ => rfl) (fun _ => Nat.le_of_ble_eq_true rfl) ?_
  refine z_nm (fun μ4 hμ4 => ?_)
  refine z_aload_n hC dX6_copyFrom_32 rfl ?_
  refine z_aload_n hC dX6_copyFrom_33 rfl ?_
  refine z_get hC iA_X6 rfl 4 (by decide) qF_X6_28 rfl dX6_copyFrom_34 (cl_ship hb2 (by omega)) (cd_ship hb2 (by omega)) rfl ?_
  refine z_top (b := μ (b2 + 6 + k) 4) (by rw [hμ4, zup_n (by omega), hμ3, zup_n (by omega), hμ2, zup_n (by omega), hμ1, zup_n (by omega)]) ?_
  refine z_put hC iA_X6 rfl tyX6 tyX6_ok nmX6 4 (by decide) rfl rfl 4 rfl qF_X6_28 rfl dX6_copyFrom_37 (cl_ship hb (by omega)) (cd_ship hb (by omega)) (fun _ => rfl) (fun _ => Nat.le_of_ble_eq_true rfl) ?_
  refine z_nm (fun μ5 hμ5 => ?_)
  refine z_aload_n hC dX6_copyFrom_40 rfl ?_
  refine z_aload_n hC dX6_copyFrom_41 rfl ?_
  refine z_get hC iA_X6 rfl 5 (by decide) qF_X6_31 rfl dX6_copyFrom_42 (cl_ship hb2 (by omega)) (cd_ship hb2 (by omega)) rfl ?_
  refine z_top (b := μ (b2 + 6 + k) 5) (by rw [hμ5, zup_n (by omega), hμ4, zup_n (by omega), hμ3, zup_n (by omega), hμ2, zup_n (by omega), hμ1, zup_n (by omega)]) ?_
  refine z_put hC iA_X6 rfl tyX6 tyX6_ok nmX6 5 (by decide) rfl rfl 5 rfl qF_X6_31 rfl dX6_copyFrom_45 (cl_ship hb (by omega)) (cd_ship hb (by omega)) (fun _ => rfl) (fun _ => Nat.le_of_ble_eq_true rfl) ?_
  refine z_nm (fun μ6 hμ6 => ?_)
  refine z_aload_n hC dX6_copyFrom_48 rfl ?_
  refine z_aload_n hC dX6_copyFrom_49 rfl ?_
  refine z_get hC iA_X6 rfl 6 (by decide) qF_X6_34 rfl dX6_copyFrom_50 (cl_ship hb2 (by omega)) (cd_ship hb2 (by omega)) rfl ?_
  refine z_top (b := μ (b2 + 6 + k) 6) (by rw [hμ6, zup_n (by omega), hμ5, zup_n (by omega), hμ4, zup_n (by omega), hμ3, zup_n (by omega), hμ2, zup_n (by omega), hμ1, zup_n (by omega)]) ?_
  refine z_put hC iA_X6 rfl tyX6 tyX6_ok nmX6 6 (by decide) rfl rfl 6 rfl qF_X6_34 rfl dX6_copyFrom_53 (cl_ship hb (by omega)) (cd_ship hb (by omega)) (fun _ => rfl) (fun _ => Nat.le_of_ble_eq_true rfl) ?_
  refine z_nm (fun μ7 hμ7 => ?_)
  refine z_aload_n hC dX6_copyFrom_56 rfl ?_
  refine z_get hC iA_X6 rfl 7 (by decide) qF_X6_9 rfl dX6_copyFrom_57 (cl_ship hb2 (by omega)) (cd_ship hb2 (by omega)) rfl ?_
  refine z_iconst hC dX6_copyFrom_60 ?_
  refine z_aload_n hC dX6_copyFrom_61 rfl ?_
  refine z_get hC iA_X6 rfl 7 (by decide) qF_X6_9 rfl dX6_copyFrom_62 (cl_ship hb (by omega)) (cd_ship hb (by omega)) rfl ?_
  refine z_iconst hC dX6_copyFrom_65 ?_
  refine z_bipush hC dX6_copyFrom_66 (by decide) ?_
  refine z_copy hC qM_X6_37 dX6_copyFrom_68 (cl_fx hb2 (by omega)) (cl_fx hb (by omega)) (n := 10) (cd_fx hb2 (by omega)) (cd_fx hb (by omega)) (by decide) (by decide) (Nat.le_of_ble_eq_true rfl) ?_
  refine z_nm (fun μ8 hμ8 => ?_)
  refine z_vret hC dX6_copyFrom_71 ⟨rfl, fun c i q1 q2 => ?_, fun i hi => ?_, fun i hi => ?_⟩
  · rw [hμ8]; dsimp only; rw [if_neg (by omega), hμ7, zup_n (by omega), hμ6, zup_n (by omega), hμ5, zup_n (by omega), hμ4, zup_n (by omega), hμ3, zup_n (by omega), hμ2, zup_n (by omega), hμ1, zup_n (by omega)]
  · rw [hμ8]; dsimp only; rw [if_neg (by omega)]
    have q : i = 0 ∨ i = 1 ∨ i = 2 ∨ i = 3 ∨ i = 4 ∨ i = 5 ∨ i = 6 := by omega
    rcases q with rfl | rfl | rfl | rfl | rfl | rfl | rfl
    · rw [hμ7, zup_n (by omega), hμ6, zup_n (by omega), hμ5, zup_n (by omega), hμ4, zup_n (by omega), hμ3, zup_n (by omega), hμ2, zup_n (by omega), hμ1, zup_s]
    · rw [hμ7, zup_n (by omega), hμ6, zup_n (by omega), hμ5, zup_n (by omega), hμ4, zup_n (by omega), hμ3, zup_n (by omega), hμ2, zup_s]
    · rw [hμ7, zup_n (by omega), hμ6, zup_n (by omega), hμ5, zup_n (by omega), hμ4, zup_n (by omega), hμ3, zup_s]
    · rw [hμ7, zup_n (by omega), hμ6, zup_n (by omega), hμ5, zup_n (by omega), hμ4, zup_s]
    · rw [hμ7, zup_n (by omega), hμ6, zup_n (by omega), hμ5, zup_s]
    · rw [hμ7, zup_n (by omega), hμ6, zup_s]
    · rw [hμ7, zup_s]
  · rw [hμ8]; dsimp only; rw [if_pos ⟨rfl, by omega, by omega⟩, hμ7, zup_n (by omega), hμ6, zup_n (by omega), hμ5, zup_n (by omega), hμ4, zup_n (by omega), hμ3, zup_n (by omega), hμ2, zup_n (by omega), hμ1, zup_n (by omega)]

set_option maxHeartbeats 4000000 in
set_option maxRecDepth 100000 in
/-- Cargo.copyFrom(other) -/
theorem m_X0_copyFrom (l : Launch) (G : va_G) (ca : Nat → ClassId) (ad : Int → Nat) (A : Nat → Prop) (μ : zM) (b b2 : Int) (hb : zb b) (hb2 : zb b2) (hbb : b2 + 26 ≤ b ∨ b + 26 ≤ b2) (k : Int) (hk : 0 ≤ k ∧ k < 10) : zMet l (cω G ca ad) A yX0_copyFrom cX0_copyFrom 2 none 0 0 [.ref (ad (b + 16 + k)), .ref (ad (b2 + 16 + k))] μ (zpV (fun μ' => (∀ c i, c ≠ b + 16 + k → μ' c i = μ c i) ∧ (∀ i, 0 ≤ i ∧ i < 8 → μ' (b + 16 + k) i = μ (b2 + 16 + k) i))) := by
  refine zMet_of (by decide) (Nat.le_of_ble_eq_true rfl) (fun Γ hC => ?_)
  show Z Γ _ μ 0 [(0, .ref (ad (b + 16 + k))), (1, .ref (ad (b2 + 16 + k)))] []
  refine z_aload_n hC dX0_copyFrom_0 rfl ?_
  refine z_aload_n hC dX0_copyFrom_1 rfl ?_
  refine z_get hC iA_X0 rfl 0 (by decide) qF_X0_7 rfl dX0_copyFrom_2 (cl_cargo hb2 (by omega)) (cd_cargo hb2 (by omega)) rfl ?_
  refine z_put hC iA_X0 rfl tyX0 tyX0_ok nmX0 0 (by decide) rfl rfl 0 rfl qF_X0_7 rfl dX0_copyFrom_5 (cl_cargo hb (by omega)) (cd_cargo hb (by omega)) (fun _ => rfl) (fun _ => Nat.le_of_ble_eq_true rfl) ?_
  refine z_nm (fun μ1 hμ1 => ?_)
  refine z_aload_n hC dX0_copyFrom_8 rfl ?_
  refine z_aload_n hC dX0_copyFrom_9 rfl ?_
  refine z_get hC iA_X0 rfl 1 (by decide) qF_X0_13 rfl dX0_copyFrom_10 (cl_cargo hb2 (by omega)) (cd_cargo hb2 (by omega)) rfl ?_
  refine z_top (b := μ (b2 + 16 + k) 1) (by rw [hμ1, zup_n (by omega)]) ?_
  refine z_put hC iA_X0 rfl tyX0 tyX0_ok nmX0 1 (by decide) rfl rfl 1 rfl qF_X0_13 rfl dX0_copyFrom_13 (cl_cargo hb (by omega)) (cd_cargo hb (by omega)) (fun _ => rfl) (fun _ => Nat.le_of_ble_eq_true rfl) ?_
  refine z_nm (fun μ2 hμ2 => ?_)
  refine z_aload_n hC dX0_copyFrom_16 rfl ?_
  refine z_aload_n hC dX0_copyFrom_17 rfl ?_
  refine z_get hC iA_X0 rfl 2 (by decide) qF_X0_16 rfl dX0_copyFrom_18 (cl_cargo hb2 (by omega)) (cd_cargo hb2 (by omega)) rfl ?_
  refine z_top (b := μ (b2 + 16 + k) 2) (by rw [hμ2, zup_n (by omega), hμ1, zup_n (by omega)]) ?_
  refine z_put hC iA_X0 rfl tyX0 tyX0_ok nmX0 2 (by decide) rfl rfl 2 rfl qF_X0_16 rfl dX0_copyFrom_21 (cl_cargo hb (by omega)) (cd_cargo hb (by omega)) (fun _ => rfl) (fun _ => Nat.le_of_ble_eq_true rfl) ?_
  refine z_nm (fun μ3 hμ3 => ?_)
  refine z_aload_n hC dX0_copyFrom_24 rfl ?_
  refine z_aload_n hC dX0_copyFrom_25 rfl ?_
  refine z_get hC iA_X0 rfl 3 (by decide) qF_X0_19 rfl dX0_copyFrom_26 (cl_cargo hb2 (by omega)) (cd_cargo hb2 (by omega)) rfl ?_
  refine z_top (b := μ (b2 + 16 + k) 3) (by rw [hμ3, zup_n (by omega), hμ2, zup_n (by omega), hμ1, zup_n (by omega)]) ?_
  refine z_put hC iA_X0 rfl tyX0 tyX0_ok nmX0 3 (by decide) rfl rfl 3 rfl qF_X0_19 rfl dX0_copyFrom_29 (cl_cargo hb (by omega)) (cd_cargo hb (by omega)) (fun _ => rfl) (fun _ => Nat.le_of_ble_eq_true rfl) ?_
  refine z_nm (fun μ4 hμ4 => ?_)
  refine z_aload_n hC dX0_copyFrom_32 rfl ?_
  refine z_aload_n hC dX0_copyFrom_33 rfl ?_
  refine z_get hC iA_X0 rfl 4 (by decide) qF_X0_22 rfl dX0_copyFrom_34 (cl_cargo hb2 (by omega)) (cd_cargo hb2 (by omega)) rfl ?_
  refine z_top (b := μ (b2 + 16 + k) 4) (by rw [hμ4, zup_n (by omega), hμ3, zup_n (by omega), hμ2, zup_n (by omega), hμ1, zup_n (by omega)]) ?_
  refine z_put hC iA_X0 rfl tyX0 tyX0_ok nmX0 4 (by decide) rfl rfl 4 rfl qF_X0_22 rfl dX0_copyFrom_37 (cl_cargo hb (by omega)) (cd_cargo hb (by omega)) (fun _ => rfl) (fun _ => Nat.le_of_ble_eq_true rfl) ?_
  refine z_nm (fun μ5 hμ5 => ?_)
  refine z_aload_n hC dX0_copyFrom_40 rfl ?_
  refine z_aload_n hC dX0_copyFrom_41 rfl ?_
  refine z_get hC iA_X0 rfl 5 (by decide) qF_X0_25 rfl dX0_copyFrom_42 (cl_cargo hb2 (by omega)) (cd_cargo hb2 (by omega)) rfl ?_
  refine z_top (b := μ (b2 + 16 + k) 5) (by rw [hμ5, zup_n (by omega), hμ4, zup_n (by omega), hμ3, zup_n (by omega), hμ2, zup_n (by omega), hμ1, zup_n (by omega)]) ?_
  refine z_put hC iA_X0 rfl tyX0 tyX0_ok nmX0 5 (by decide) rfl rfl 5 rfl qF_X0_25 rfl dX0_copyFrom_45 (cl_cargo hb (by omega)) (cd_cargo hb (by omega)) (fun _ => rfl) (fun _ => Nat.le_of_ble_eq_true rfl) ?_
  refine z_nm (fun μ6 hμ6 => ?_)
  refine z_aload_n hC dX0_copyFrom_48 rfl ?_
  refine z_aload_n hC dX0_copyFrom_49 rfl ?_
  refine z_get hC iA_X0 rfl 6 (by decide) qF_X0_28 rfl dX0_copyFrom_50 (cl_cargo hb2 (by omega)) (cd_cargo hb2 (by omega)) rfl ?_
  refine z_top (b := μ (b2 + 16 + k) 6) (by rw [hμ6, zup_n (by omega), hμ5, zup_n (by omega), hμ4, zup_n (by omega), hμ3, zup_n (by omega), hμ2, zup_n (by omega), hμ1, zup_n (by omega)]) ?_
  refine z_put hC iA_X0 rfl tyX0 tyX0_ok nmX0 6 (by decide) rfl rfl 6 rfl qF_X0_28 rfl dX0_copyFrom_53 (cl_cargo hb (by omega)) (cd_cargo hb (by omega)) (fun _ => rfl) (fun _ => Nat.le_of_ble_eq_true rfl) ?_
  refine z_nm (fun μ7 hμ7 => ?_)
  refine z_aload_n hC dX0_copyFrom_56 rfl ?_
  refine z_aload_n hC dX0_copyFrom_57 rfl ?_
  refine z_get hC iA_X0 rfl 7 (by decide) qF_X0_31 rfl dX0_copyFrom_58 (cl_cargo hb2 (by omega)) (cd_cargo hb2 (by omega)) rfl ?_
  refine z_top (b := μ (b2 + 16 + k) 7) (by rw [hμ7, zup_n (by omega), hμ6, zup_n (by omega), hμ5, zup_n (by omega), hμ4, zup_n (by omega), hμ3, zup_n (by omega), hμ2, zup_n (by omega), hμ1, zup_n (by omega)]) ?_
  refine z_put hC iA_X0 rfl tyX0 tyX0_ok nmX0 7 (by decide) rfl rfl 7 rfl qF_X0_31 rfl dX0_copyFrom_61 (cl_cargo hb (by omega)) (cd_cargo hb (by omega)) (fun _ => rfl) (fun _ => Nat.le_of_ble_eq_true rfl) ?_
  refine z_nm (fun μ8 hμ8 => ?_)
  refine z_vret hC dX0_copyFrom_64 ⟨rfl, fun c i q1 => ?_, fun i hi => ?_⟩
  · rw [hμ8, zup_n (by omega), hμ7, zup_n (by omega), hμ6, zup_n (by omega), hμ5, zup_n (by omega), hμ4, zup_n (by omega), hμ3, zup_n (by omega), hμ2, zup_n (by omega), hμ1, zup_n (by omega)]
  · have q : i = 0 ∨ i = 1 ∨ i = 2 ∨ i = 3 ∨ i = 4 ∨ i = 5 ∨ i = 6 ∨ i = 7 := by omega
    rcases q with rfl | rfl | rfl | rfl | rfl | rfl | rfl | rfl
    · rw [hμ8, zup_n (by omega), hμ7, zup_n (by omega), hμ6, zup_n (by omega), hμ5, zup_n (by omega), hμ4, zup_n (by omega), hμ3, zup_n (by omega), hμ2, zup_n (by omega), hμ1, zup_s]
    · rw [hμ8, zup_n (by omega), hμ7, zup_n (by omega), hμ6, zup_n (by omega), hμ5, zup_n (by omega), hμ4, zup_n (by omega), hμ3, zup_n (by omega), hμ2, zup_s]
    · rw [hμ8, zup_n (by omega), hμ7, zup_n (by omega), hμ6, zup_n (by omega), hμ5, zup_n (by omega), hμ4, zup_n (by omega), hμ3, zup_s]
    · rw [hμ8, zup_n (by omega), hμ7, zup_n (by omega), hμ6, zup_n (by omega), hμ5, zup_n (by omega), hμ4, zup_s]
    · rw [hμ8, zup_n (by omega), hμ7, zup_n (by omega), hμ6, zup_n (by omega), hμ5, zup_s]
    · rw [hμ8, zup_n (by omega), hμ7, zup_n (by omega), hμ6, zup_s]
    · rw [hμ8, zup_n (by omega), hμ7, zup_s]
    · rw [hμ8, zup_s]

set_option maxHeartbeats 4000000 in
set_option maxRecDepth 100000 in
/-- Desk.copyFrom(other) -/
theorem m_X2_copyFrom (l : Launch) (G : va_G) (ca : Nat → ClassId) (ad : Int → Nat) (A : Nat → Prop) (μ : zM) (b b2 : Int) (hb : zb b) (hb2 : zb b2) (hbb : b2 + 26 ≤ b ∨ b + 26 ≤ b2) : zMet l (cω G ca ad) A yX2_copyFrom cX2_copyFrom 3 none 2 61 [.ref (ad b), .ref (ad b2)] μ (zpV (fun μ' => vw μ' b = vw μ b2 ∧ zFd μ b μ')) := by
  refine zMet_of (by decide) (Nat.le_of_ble_eq_true rfl) (fun Γ hC => ?_)
  show Z Γ _ μ 0 [(0, .ref (ad b)), (1, .ref (ad b2))] []
  refine z_aload_n hC dX2_copyFrom_0 rfl ?_
  refine z_get hC iA_X2 rfl 0 (by decide) qF_X2_9 rfl dX2_copyFrom_1 (cl_desk hb2) (cd_desk hb2) rfl ?_
  refine z_iconst hC dX2_copyFrom_4 ?_
  refine z_aload_n hC dX2_copyFrom_5 rfl ?_
  refine z_get hC iA_X2 rfl 0 (by decide) qF_X2_9 rfl dX2_copyFrom_6 (cl_desk hb) (cd_desk hb) rfl ?_
  refine z_iconst hC dX2_copyFrom_9 ?_
  refine z_bipush hC dX2_copyFrom_10 (by decide) ?_
  refine z_copy hC qM_X2_39 dX2_copyFrom_12 (cl_x hb2) (cl_x hb) (n := 8) (cd_x hb2) (cd_x hb) (by decide) (by decide) (Nat.le_of_ble_eq_true rfl) ?_
  refine z_nm (fun μ1 hμ1 => ?_)
  refine z_aload_n hC dX2_copyFrom_15 rfl ?_
  refine z_get hC iA_X2 rfl 1 (by decide) qF_X2_15 rfl dX2_copyFrom_16 (cl_desk hb2) (cd_desk hb2) rfl ?_
  refine z_iconst hC dX2_copyFrom_19 ?_
  refine z_aload_n hC dX2_copyFrom_20 rfl ?_
  refine z_get hC iA_X2 rfl 1 (by decide) qF_X2_15 rfl dX2_copyFrom_21 (cl_desk hb) (cd_desk hb) rfl ?_
  refine z_iconst hC dX2_copyFrom_24 ?_
  refine z_bipush hC dX2_copyFrom_25 (by decide) ?_
  refine z_copy hC qM_X2_39 dX2_copyFrom_27 (cl_y hb2) (cl_y hb) (n := 8) (cd_y hb2) (cd_y hb) (by decide) (by decide) (Nat.le_of_ble_eq_true rfl) ?_
  refine z_nm (fun μ2 hμ2 => ?_)
  refine z_iconst hC dX2_copyFrom_30 ?_
  refine z_istore_n hC dX2_copyFrom_31 (by decide) rfl ?_
  have LOOP : ∀ (r n : Nat), n + r = 5 → ∀ μ1 : zM, zCp μ b b2 (n : Int) 0 μ1 → Z Γ (cω G ca ad) μ1 32 [(2, .int (iZ (n : Int))), (0, .ref (ad b)), (1, .ref (ad b2))] [] := by
    intro r
    induction r with
    | zero =>
      intro n hn μ1 hp
      refine z_iload_n hC dX2_copyFrom_32 rfl ?_
      refine z_iconst hC dX2_copyFrom_33 ?_
      refine z_icmp_ge hC 58 dX2_copyFrom_34 (by decide) (by omega) (by omega) (fun c_3 => ?_) (fun c_3 => ?_)
      · refine z_iconst hC dX2_copyFrom_58 ?_
        refine z_istore_n hC dX2_copyFrom_59 (by decide) rfl ?_
        have LOOPC : ∀ (r n : Nat), n + r = 10 → ∀ μ1 : zM, zCp μ b b2 5 (n : Int) μ1 → Z Γ (cω G ca ad) μ1 60 [(2, .int (iZ (n : Int))), (0, .ref (ad b)), (1, .ref (ad b2))] [] := by
          intro r
          induction r with
          | zero =>
            intro n hn μ1 hp
            refine z_iload_n hC dX2_copyFrom_60 rfl ?_
            refine z_bipush hC dX2_copyFrom_61 (by decide) ?_
            refine z_icmp_ge hC 87 dX2_copyFrom_63 (by decide) (by omega) (by omega) (fun c_4 => ?_) (fun c_4 => ?_)
            · refine z_aload_n hC dX2_copyFrom_87 rfl ?_
              refine z_aload_n hC dX2_copyFrom_88 rfl ?_
              refine z_get hC iA_X2 rfl 4 (by decide) qF_X2_52 rfl dX2_copyFrom_89 (cl_desk hb2) (cd_desk hb2) rfl ?_
              refine z_put hC iA_X2 rfl tyX2 tyX2_ok nmX2 4 (by decide) rfl rfl 4 rfl qF_X2_52 rfl dX2_copyFrom_92 (cl_desk hb) (cd_desk hb) (fun _ => rfl) (fun _ => Nat.le_of_ble_eq_true rfl) ?_
              refine z_nm (fun μ5 hμ5 => ?_)
              refine z_aload_n hC dX2_copyFrom_95 rfl ?_
              refine z_aload_n hC dX2_copyFrom_96 rfl ?_
              refine z_get hC iA_X2 rfl 5 (by decide) qF_X2_56 rfl dX2_copyFrom_97 (cl_desk hb2) (cd_desk hb2) rfl ?_
              refine z_top (b := μ1 b2 5) (by rw [hμ5, zup_n (by omega)]) ?_
              refine z_put hC iA_X2 rfl tyX2 tyX2_ok nmX2 5 (by decide) rfl rfl 5 rfl qF_X2_56 rfl dX2_copyFrom_100 (cl_desk hb) (cd_desk hb) (fun _ => rfl) (fun _ => Nat.le_of_ble_eq_true rfl) ?_
              refine z_nm (fun μ6 hμ6 => ?_)
              refine z_aload_n hC dX2_copyFrom_103 rfl ?_
              refine z_aload_n hC dX2_copyFrom_104 rfl ?_
              refine z_get hC iA_X2 rfl 6 (by decide) qF_X2_59 rfl dX2_copyFrom_105 (cl_desk hb2) (cd_desk hb2) rfl ?_
              refine z_top (b := μ1 b2 6) (by rw [hμ6, zup_n (by omega), hμ5, zup_n (by omega)]) ?_
              refine z_put hC iA_X2 rfl tyX2 tyX2_ok nmX2 6 (by decide) rfl rfl 6 rfl qF_X2_59 rfl dX2_copyFrom_108 (cl_desk hb) (cd_desk hb) (fun _ => rfl) (fun _ => Nat.le_of_ble_eq_true rfl) ?_
              refine z_nm (fun μ7 hμ7 => ?_)
              refine z_aload_n hC dX2_copyFrom_111 rfl ?_
              refine z_aload_n hC dX2_copyFrom_112 rfl ?_
              refine z_get hC iA_X2 rfl 7 (by decide) qF_X2_62 rfl dX2_copyFrom_113 (cl_desk hb2) (cd_desk hb2) rfl ?_
              refine z_top (b := μ1 b2 7) (by rw [hμ7, zup_n (by omega), hμ6, zup_n (by omega), hμ5, zup_n (by omega)]) ?_
              refine z_put hC iA_X2 rfl tyX2 tyX2_ok nmX2 7 (by decide) rfl rfl 7 rfl qF_X2_62 rfl dX2_copyFrom_116 (cl_desk hb) (cd_desk hb) (fun _ => rfl) (fun _ => Nat.le_of_ble_eq_true rfl) ?_
              refine z_nm (fun μ8 hμ8 => ?_)
              obtain rfl : n = 10 := by omega
              refine z_vret hC dX2_copyFrom_119 ⟨rfl, zCp_all hp (fun c q => ?_) (fun i hi => ?_)⟩
              · rw [hμ8, zup_o q, hμ7, zup_o q, hμ6, zup_o q, hμ5, zup_o q]
              · have q : i = 4 ∨ i = 5 ∨ i = 6 ∨ i = 7 := by omega
                rcases q with rfl | rfl | rfl | rfl
                · rw [hμ8, zup_n (by omega), hμ7, zup_n (by omega), hμ6, zup_n (by omega), hμ5, zup_s, hp.1 _ (by omega)]
                · rw [hμ8, zup_n (by omega), hμ7, zup_n (by omega), hμ6, zup_s, hp.1 _ (by omega)]
                · rw [hμ8, zup_n (by omega), hμ7, zup_s, hp.1 _ (by omega)]
                · rw [hμ8, zup_s, hp.1 _ (by omega)]
            · exfalso; omega
          | succ r ih =>
            intro n hn μ1 hp
            refine z_iload_n hC dX2_copyFrom_60 rfl ?_
            refine z_bipush hC dX2_copyFrom_61 (by decide) ?_
            refine z_icmp_ge hC 87 dX2_copyFrom_63 (by decide) (by omega) (by omega) (fun c_9 => ?_) (fun c_9 => ?_)
            · exfalso; omega
            · refine z_aload_n hC dX2_copyFrom_66 rfl ?_
              refine z_get hC iA_X2 rfl 3 (by decide) qF_X2_26 rfl dX2_copyFrom_67 (cl_desk hb) (cd_desk hb) rfl ?_
              refine z_iload_n hC dX2_copyFrom_70 rfl ?_
              refine z_aald hC dX2_copyFrom_71 3 rfl (cl_cargoes hb) (fun _ i => b + 16 + i) (cd_cargoes hb) (by omega) (by omega) (by decide) ?_
              refine z_aload_n hC dX2_copyFrom_72 rfl ?_
              refine z_get hC iA_X2 rfl 3 (by decide) qF_X2_26 rfl dX2_copyFrom_73 (cl_desk hb2) (cd_desk hb2) rfl ?_
              refine z_iload_n hC dX2_copyFrom_76 rfl ?_
              refine z_aald hC dX2_copyFrom_77 3 rfl (cl_cargoes hb2) (fun _ i => b2 + 16 + i) (cd_cargoes hb2) (by omega) (by omega) (by decide) ?_
              refine z_callV hC [.ref (ad (b2 + 16 + (n : Int)))] 1 rfl dX2_copyFrom_78 (fun l => m_X0_copyFrom l G ca ad _ μ1 b b2 hb hb2 hbb (n : Int) (by omega)) qM_X2_49 qI_X0_copyFrom qS_X0_copyFrom qi_X0 qC_X0_copyFrom (by decide +kernel) (by decide) (by decide) (cl_cargo hb (by omega)) (cd_cargo hb (by omega)) rfl (Nat.le_of_ble_eq_true rfl) (zk_void (fun μ10 hμ10 => ?_)) rfl
              refine z_iinc hC dX2_copyFrom_81 rfl (by decide) rfl ?_
              refine z_goto hC 60 dX2_copyFrom_84 (by decide) ?_
              refine z_weak (L' := [(2, .int (iZ ((n + 1 : Nat) : Int))), (0, .ref (ad b)), (1, .ref (ad b2))]) ⟨rfl, rfl, rfl, trivial⟩ ?_
              exact ih (n + 1) (by omega) _ (zCp_cargo hbb (by omega) (by omega) hp hμ10.1 hμ10.2)
        refine z_weak (L' := [(2, .int (iZ ((0 : Nat) : Int))), (0, .ref (ad b)), (1, .ref (ad b2))]) ⟨rfl, rfl, rfl, trivial⟩ ?_
        obtain rfl : n = 5 := by omega
        exact LOOPC 10 0 (by omega) _ hp
      · exfalso; omega
    | succ r ih =>
      intro n hn μ1 hp
      refine z_iload_n hC dX2_copyFrom_32 rfl ?_
      refine z_iconst hC dX2_copyFrom_33 ?_
      refine z_icmp_ge hC 58 dX2_copyFrom_34 (by decide) (by omega) (by omega) (fun c_11 => ?_) (fun c_11 => ?_)
      · exfalso; omega
      · refine z_aload_n hC dX2_copyFrom_37 rfl ?_
        refine z_get hC iA_X2 rfl 2 (by decide) qF_X2_20 rfl dX2_copyFrom_38 (cl_desk hb) (cd_desk hb) rfl ?_
        refine z_iload_n hC dX2_copyFrom_41 rfl ?_
        refine z_aald hC dX2_copyFrom_42 2 rfl (cl_ships hb) (fun _ i => b + 6 + i) (cd_ships hb) (by omega) (by omega) (by decide) ?_
        refine z_aload_n hC dX2_copyFrom_43 rfl ?_
        refine z_get hC iA_X2 rfl 2 (by decide) qF_X2_20 rfl dX2_copyFrom_44 (cl_desk hb2) (cd_desk hb2) rfl ?_
        refine z_iload_n hC dX2_copyFrom_47 rfl ?_
        refine z_aald hC dX2_copyFrom_48 2 rfl (cl_ships hb2) (fun _ i => b2 + 6 + i) (cd_ships hb2) (by omega) (by omega) (by decide) ?_
        refine z_callV hC [.ref (ad (b2 + 6 + (n : Int)))] 1 rfl dX2_copyFrom_49 (fun l => m_X6_copyFrom l G ca ad _ μ1 b b2 hb hb2 hbb (n : Int) (by omega)) qM_X2_45 qI_X6_copyFrom qS_X6_copyFrom qi_X6 qC_X6_copyFrom (by decide +kernel) (by decide) (by decide) (cl_ship hb (by omega)) (cd_ship hb (by omega)) rfl (Nat.le_of_ble_eq_true rfl) (zk_void (fun μ12 hμ12 => ?_)) rfl
        refine z_iinc hC dX2_copyFrom_52 rfl (by decide) rfl ?_
        refine z_goto hC 32 dX2_copyFrom_55 (by decide) ?_
        refine z_weak (L' := [(2, .int (iZ ((n + 1 : Nat) : Int))), (0, .ref (ad b)), (1, .ref (ad b2))]) ⟨rfl, rfl, rfl, trivial⟩ ?_
        exact ih (n + 1) (by omega) _ (zCp_ship hbb (by omega) hp hμ12.1 hμ12.2.1 hμ12.2.2)
  refine z_weak (L' := [(2, .int (iZ ((0 : Nat) : Int))), (0, .ref (ad b)), (1, .ref (ad b2))]) ⟨rfl, rfl, rfl, trivial⟩ ?_
  refine LOOP 5 0 (by omega) _ ⟨fun c hc => ?_, fun o i hr ho => ?_⟩
  · funext i; rw [hμ2]; dsimp only; rw [if_neg (by omega), hμ1]; dsimp only; rw [if_neg (by omega)]
  · unfold zrel at hr
    rw [hμ2]; dsimp only
    by_cases q : o = 2
    · rw [if_pos (by omega), hμ1]; dsimp only; rw [if_neg (by omega), q]
    · have q1 : o = 1 := by omega
      rw [if_neg (by omega), hμ1]; dsimp only; rw [if_pos (by omega), q1]
end
section
/-! THE HISTORY: its four desks stand in some order -/
theorem zup_v {μ : zM} {c i z c' i' : Int} (h : c' = c ∧ i' = i) : zup μ c i z c' i' = z := if_pos h
def zPm (μ : zM) : Prop := (∀ i, 0 ≤ i ∧ i < 4 → 2 ≤ μ 158 i ∧ μ 158 i ≤ 5) ∧ ∀ i j, 0 ≤ i ∧ i < 4 → 0 ≤ j ∧ j < 4 → μ 158 i = μ 158 j → i = j
def zHi (μ : zM) (n : Int) (h : Int → zM) : Prop := zPm μ ∧ μ 157 1 = n ∧ (0 ≤ n ∧ n ≤ 4) ∧ ∀ i, 0 ≤ i ∧ i < n → vw μ (26 * μ 158 i) = h i
def sPushN (n : Int) : Int := if n = 4 then 4 else n + 1
def sPushH (n : Int) (h : Int → zM) (d : zM) : Int → zM := fun i => if n = 4 then (if i = 3 then d else h (i + 1)) else if i = n then d else h i
theorem zHi_eq {μ : zM} {n : Int} {h h' : Int → zM} (H : zHi μ n h) (e : ∀ i, 0 ≤ i ∧ i < n → h i = h' i) : zHi μ n h' := ⟨H.1, H.2.1, H.2.2.1, fun i hi => by rw [← e i hi]; exact H.2.2.2 i hi⟩
theorem zb_s {μ : zM} {i : Int} (h : zPm μ) (hi : 0 ≤ i ∧ i < 4) : zb (26 * μ 158 i) := ⟨μ 158 i, by have := h.1 i hi; omega, by have := h.1 i hi; omega, rfl⟩
/-- what is not the history's stays: its views too -/
theorem zHi_fr {μ μ' : zM} {n : Int} {h : Int → zM} (H : zHi μ n h) (e1 : ∀ c, 52 ≤ c ∧ c < 159 → μ' c = μ c) : zHi μ' n h := by
  obtain ⟨h1, h2, h3, h4⟩ := H
  have e158 : μ' 158 = μ 158 := e1 158 (by omega)
  refine ⟨by unfold zPm; rw [e158]; exact h1, by rw [e1 157 (by omega)]; exact h2, h3, fun i hi => ?_⟩
  rw [e158, ← h4 i hi]
  have hb := h1.1 i (by omega)
  exact vw_eq (fun o j hr => by rw [e1 _ (by unfold zrel at hr; omega)])
theorem zHi_drop {μ μ' : zM} {h : Int → zM} (H : zHi μ 4 h) (h0 : μ' 158 0 = μ 158 1) (h1 : μ' 158 1 = μ 158 2) (h2 : μ' 158 2 = μ 158 3) (h3 : μ' 158 3 = μ 158 0) (hs : μ' 157 1 = 3) (e : ∀ c, c < 157 → μ' c = μ c) : zHi μ' 3 (fun i => h (i + 1)) := by
  obtain ⟨⟨p1, p2⟩, q2, q3, q4⟩ := H
  have b0 := p1 0 (by omega)
  have b1 := p1 1 (by omega)
  have b2 := p1 2 (by omega)
  have b3 := p1 3 (by omega)
  have n01 : μ 158 0 ≠ μ 158 1 := fun q => absurd (p2 0 1 (by omega) (by omega) q) (by omega)
  have n02 : μ 158 0 ≠ μ 158 2 := fun q => absurd (p2 0 2 (by omega) (by omega) q) (by omega)
  have n03 : μ 158 0 ≠ μ 158 3 := fun q => absurd (p2 0 3 (by omega) (by omega) q) (by omega)
  have n12 : μ 158 1 ≠ μ 158 2 := fun q => absurd (p2 1 2 (by omega) (by omega) q) (by omega)
  have n13 : μ 158 1 ≠ μ 158 3 := fun q => absurd (p2 1 3 (by omega) (by omega) q) (by omega)
  have n23 : μ 158 2 ≠ μ 158 3 := fun q => absurd (p2 2 3 (by omega) (by omega) q) (by omega)
  have c4 : ∀ i : Int, 0 ≤ i ∧ i < 4 → i = 0 ∨ i = 1 ∨ i = 2 ∨ i = 3 := fun i hi => by omega
  have fr : ∀ x : Int, 2 ≤ x ∧ x ≤ 5 → vw μ' (26 * x) = vw μ (26 * x) := fun x hx => vw_eq (fun o j hr => by rw [e _ (by unfold zrel at hr; omega)])
  refine ⟨⟨fun i hi => ?_, fun i j hi hj q => ?_⟩, hs, by omega, fun i hi => ?_⟩
  · rcases c4 i hi with rfl | rfl | rfl | rfl <;> omega
  · rcases c4 i hi with rfl | rfl | rfl | rfl <;> rcases c4 j hj with rfl | rfl | rfl | rfl <;> omega
  · have hc : i = 0 ∨ i = 1 ∨ i = 2 := by omega
    rcases hc with rfl | rfl | rfl
    · rw [h0, fr _ b1]; exact q4 1 (by omega)
    · rw [h1, fr _ b2]; exact q4 2 (by omega)
    · rw [h2, fr _ b3]; exact q4 3 (by omega)
theorem zHi_put {μ μ2 μ3 : zM} {m : Int} {h : Int → zM} (hm : m < 4) (H : zHi μ m h) (hv : vw μ2 (26 * μ 158 m) = vw μ 0) (hf : zFd μ (26 * μ 158 m) μ2) (h3 : μ3 = zup μ2 157 1 (m + 1)) : zHi μ3 (m + 1) (fun i => if i = m then vw μ 0 else h i) := by
  obtain ⟨⟨p1, p2⟩, q2, q3, q4⟩ := H
  have bm := p1 m (by omega)
  have e3 : ∀ c, c ≠ 157 → μ3 c = μ2 c := fun c hc => by rw [h3, zup_o hc]
  have e158 : μ3 158 = μ 158 := by rw [e3 158 (by omega), hf 158 (by omega)]
  have fr : ∀ x : Int, 2 ≤ x ∧ x ≤ 5 → vw μ3 (26 * x) = vw μ2 (26 * x) := fun x hx => vw_eq (fun o j hr => by rw [e3 _ (by unfold zrel at hr; omega)])
  refine ⟨⟨by rw [e158]; exact p1, by rw [e158]; exact p2⟩, by rw [h3, zup_s], by omega, fun i hi => ?_⟩
  have bi := p1 i (by omega)
  rw [e158, fr _ bi]
  show _ = (if i = m then vw μ 0 else h i)
  by_cases q : i = m
  · rw [if_pos q, q]; exact hv
  · have nq : μ 158 i ≠ μ 158 m := fun z => q (p2 i m (by omega) (by omega) z)
    rw [if_neg q, ← q4 i (by omega)]
    exact vw_eq (fun o j hr => by rw [hf _ (by unfold zrel at hr; omega)])
theorem zHi_cut {μ μ' : zM} {n : Int} {h : Int → zM} (H : zHi μ n h) (hn : 1 ≤ n) (e : ∀ c, 52 ≤ c ∧ c < 159 ∧ c ≠ 157 → μ' c = μ c) (h2 : μ' 157 1 = n - 1) : zHi μ' (n - 1) h := by
  obtain ⟨h1, _, h3, h4⟩ := H
  have e158 : μ' 158 = μ 158 := e 158 (by omega)
  refine ⟨by unfold zPm; rw [e158]; exact h1, h2, by omega, fun i hi => ?_⟩
  rw [e158, ← h4 i (by omega)]
  have hb := h1.1 i (by omega)
  exact vw_eq (fun o j hr => by rw [e _ (by unfold zrel at hr; omega)])
/-- a change is kept, or it was an error -/
def isErr (r : Int) : Prop := -1000004 ≤ r ∧ r ≤ -1000001
end
section
set_option maxHeartbeats 4000000 in
set_option maxRecDepth 100000 in
/-- History.dropOldest() -/
theorem m_X4_dropOldest (l : Launch) (G : va_G) (ca : Nat → ClassId) (ad : Int → Nat) (A : Nat → Prop) (μ : zM) (hpm : zPm μ) : zMet l (cω G ca ad) A yX4_dropOldest cX4_dropOldest 3 none 0 0 [.ref (ad 157)] μ (zpV (fun μ' => μ' 158 0 = μ 158 1 ∧ μ' 158 1 = μ 158 2 ∧ μ' 158 2 = μ 158 3 ∧ μ' 158 3 = μ 158 0 ∧ μ' 157 1 = 3 ∧ (∀ c, c ≠ 157 ∧ c ≠ 158 → μ' c = μ c))) := by
  refine zMet_of (by decide) (Nat.le_of_ble_eq_true rfl) (fun Γ hC => ?_)
  show Z Γ _ μ 0 [(0, .ref (ad 157))] []
  refine z_aload_n hC dX4_dropOldest_0 rfl ?_
  refine z_get hC iA_X4 rfl 0 (by decide) qF_X4_11 rfl dX4_dropOldest_1 cl_hist (cd_hist (ca := ca) (ad := ad)) rfl ?_
  refine z_iconst hC dX4_dropOldest_4 ?_
  refine z_aald hC dX4_dropOldest_5 4 rfl cl_states (fun r i => 26 * r i) (cd_states (ca := ca) (ad := ad)) (by omega) (by omega) (by decide) ?_
  refine z_astore_n hC dX4_dropOldest_6 (by decide) rfl ?_
  refine z_iconst hC dX4_dropOldest_7 ?_
  refine z_istore_n hC dX4_dropOldest_8 (by decide) rfl ?_
  refine z_iload_n hC dX4_dropOldest_9 rfl ?_
  refine z_iconst hC dX4_dropOldest_10 ?_
  refine z_icmp_ge hC 34 dX4_dropOldest_11 (by decide) (by omega) (by omega) (fun c_1 => ?_) (fun c_1 => ?_)
  · exfalso; omega
  · refine z_aload_n hC dX4_dropOldest_14 rfl ?_
    refine z_get hC iA_X4 rfl 0 (by decide) qF_X4_11 rfl dX4_dropOldest_15 cl_hist (cd_hist (ca := ca) (ad := ad)) rfl ?_
    refine z_iload_n hC dX4_dropOldest_18 rfl ?_
    refine z_iconst hC dX4_dropOldest_19 ?_
    refine z_isub hC dX4_dropOldest_20 ?_
    refine z_aload_n hC dX4_dropOldest_21 rfl ?_
    refine z_get hC iA_X4 rfl 0 (by decide) qF_X4_11 rfl dX4_dropOldest_22 cl_hist (cd_hist (ca := ca) (ad := ad)) rfl ?_
    refine z_iload_n hC dX4_dropOldest_25 rfl ?_
    refine z_aald hC dX4_dropOldest_26 4 rfl cl_states (fun r i => 26 * r i) (cd_states (ca := ca) (ad := ad)) (by omega) (by omega) (by decide) ?_
    refine z_aast hC dX4_dropOldest_27 4 (r0 := (RX2, TX2, 12)) (ci := 2) (z := μ 158 1) rfl rfl cl_states (fun r i => 26 * r i) (cd_states (ca := ca) (ad := ad)) (fun r j => by dsimp only; split <;> rfl) (cl_desk (zb_s hpm (by omega))) (cd_desk (zb_s hpm (by omega))) (by omega) (by omega) (by decide) ?_
    refine z_nm (fun μ2 hμ2 => ?_)
    refine z_iinc hC dX4_dropOldest_28 rfl (by decide) rfl ?_
    refine z_goto hC 9 dX4_dropOldest_31 (by decide) ?_
    refine z_iload_n hC dX4_dropOldest_9 rfl ?_
    refine z_iconst hC dX4_dropOldest_10 ?_
    refine z_icmp_ge hC 34 dX4_dropOldest_11 (by decide) (by omega) (by omega) (fun c_3 => ?_) (fun c_3 => ?_)
    · exfalso; omega
    · refine z_aload_n hC dX4_dropOldest_14 rfl ?_
      refine z_get hC iA_X4 rfl 0 (by decide) qF_X4_11 rfl dX4_dropOldest_15 cl_hist (cd_hist (ca := ca) (ad := ad)) rfl ?_
      refine z_iload_n hC dX4_dropOldest_18 rfl ?_
      refine z_iconst hC dX4_dropOldest_19 ?_
      refine z_isub hC dX4_dropOldest_20 ?_
      refine z_aload_n hC dX4_dropOldest_21 rfl ?_
      refine z_get hC iA_X4 rfl 0 (by decide) qF_X4_11 rfl dX4_dropOldest_22 cl_hist (cd_hist (ca := ca) (ad := ad)) rfl ?_
      refine z_iload_n hC dX4_dropOldest_25 rfl ?_
      refine z_aald hC dX4_dropOldest_26 4 rfl cl_states (fun r i => 26 * r i) (cd_states (ca := ca) (ad := ad)) (by omega) (by omega) (by decide) ?_
      refine z_topr (b := ad (26 * (μ 158 2))) (by rw [hμ2, zup_n (by omega)]; try rfl) ?_
      refine z_aast hC dX4_dropOldest_27 4 (r0 := (RX2, TX2, 12)) (ci := 2) (z := μ 158 2) rfl rfl cl_states (fun r i => 26 * r i) (cd_states (ca := ca) (ad := ad)) (fun r j => by dsimp only; split <;> rfl) (cl_desk (zb_s hpm (by omega))) (cd_desk (zb_s hpm (by omega))) (by omega) (by omega) (by decide) ?_
      refine z_nm (fun μ4 hμ4 => ?_)
      refine z_iinc hC dX4_dropOldest_28 rfl (by decide) rfl ?_
      refine z_goto hC 9 dX4_dropOldest_31 (by decide) ?_
      refine z_iload_n hC dX4_dropOldest_9 rfl ?_
      refine z_iconst hC dX4_dropOldest_10 ?_
      refine z_icmp_ge hC 34 dX4_dropOldest_11 (by decide) (by omega) (by omega) (fun c_5 => ?_) (fun c_5 => ?_)
      · exfalso; omega
      · refine z_aload_n hC dX4_dropOldest_14 rfl ?_
        refine z_get hC iA_X4 rfl 0 (by decide) qF_X4_11 rfl dX4_dropOldest_15 cl_hist (cd_hist (ca := ca) (ad := ad)) rfl ?_
        refine z_iload_n hC dX4_dropOldest_18 rfl ?_
        refine z_iconst hC dX4_dropOldest_19 ?_
        refine z_isub hC dX4_dropOldest_20 ?_
        refine z_aload_n hC dX4_dropOldest_21 rfl ?_
        refine z_get hC iA_X4 rfl 0 (by decide) qF_X4_11 rfl dX4_dropOldest_22 cl_hist (cd_hist (ca := ca) (ad := ad)) rfl ?_
        refine z_iload_n hC dX4_dropOldest_25 rfl ?_
        refine z_aald hC dX4_dropOldest_26 4 rfl cl_states (fun r i => 26 * r i) (cd_states (ca := ca) (ad := ad)) (by omega) (by omega) (by decide) ?_
        refine z_topr (b := ad (26 * (μ 158 3))) (by rw [hμ4, zup_n (by omega), hμ2, zup_n (by omega)]; try rfl) ?_
        refine z_aast hC dX4_dropOldest_27 4 (r0 := (RX2, TX2, 12)) (ci := 2) (z := μ 158 3) rfl rfl cl_states (fun r i => 26 * r i) (cd_states (ca := ca) (ad := ad)) (fun r j => by dsimp only; split <;> rfl) (cl_desk (zb_s hpm (by omega))) (cd_desk (zb_s hpm (by omega))) (by omega) (by omega) (by decide) ?_
        refine z_nm (fun μ6 hμ6 => ?_)
        refine z_iinc hC dX4_dropOldest_28 rfl (by decide) rfl ?_
        refine z_goto hC 9 dX4_dropOldest_31 (by decide) ?_
        refine z_iload_n hC dX4_dropOldest_9 rfl ?_
        refine z_iconst hC dX4_dropOldest_10 ?_
        refine z_icmp_ge hC 34 dX4_dropOldest_11 (by decide) (by omega) (by omega) (fun c_7 => ?_) (fun c_7 => ?_)
        · refine z_aload_n hC dX4_dropOldest_34 rfl ?_
          refine z_get hC iA_X4 rfl 0 (by decide) qF_X4_11 rfl dX4_dropOldest_35 cl_hist (cd_hist (ca := ca) (ad := ad)) rfl ?_
          refine z_iconst hC dX4_dropOldest_38 ?_
          refine z_aload_n hC dX4_dropOldest_39 rfl ?_
          refine z_aast hC dX4_dropOldest_40 4 (r0 := (RX2, TX2, 12)) (ci := 2) (z := μ 158 0) rfl rfl cl_states (fun r i => 26 * r i) (cd_states (ca := ca) (ad := ad)) (fun r j => by dsimp only; split <;> rfl) (cl_desk (zb_s hpm (by omega))) (cd_desk (zb_s hpm (by omega))) (by omega) (by omega) (by decide) ?_
          refine z_nm (fun μ8 hμ8 => ?_)
          refine z_aload_n hC dX4_dropOldest_41 rfl ?_
          refine z_iconst hC dX4_dropOldest_42 ?_
          refine z_put hC iA_X4 rfl tyX4 tyX4_ok nmX4 1 (by decide) rfl rfl 1 rfl qF_X4_18 rfl dX4_dropOldest_43 cl_hist (cd_hist (ca := ca) (ad := ad)) (fun _ => rfl) (fun _ => Nat.le_of_ble_eq_true rfl) ?_
          refine z_nm (fun μ9 hμ9 => ?_)
          exact z_vret hC dX4_dropOldest_46 ⟨rfl, by rw [hμ9, zup_n (by omega), hμ8, zup_n (by omega), hμ6, zup_n (by omega), hμ4, zup_n (by omega), hμ2, zup_v (by omega)], by rw [hμ9, zup_n (by omega), hμ8, zup_n (by omega), hμ6, zup_n (by omega), hμ4, zup_v (by omega)], by rw [hμ9, zup_n (by omega), hμ8, zup_n (by omega), hμ6, zup_v (by omega)], by rw [hμ9, zup_n (by omega), hμ8, zup_v (by omega)], by rw [hμ9, zup_v (by omega)], fun c9 hc9 => by rw [hμ9, zup_o (by omega), hμ8, zup_o (by omega), hμ6, zup_o (by omega), hμ4, zup_o (by omega), hμ2, zup_o (by omega)]⟩
        · exfalso; omega

set_option maxHeartbeats 4000000 in
set_option maxRecDepth 100000 in
/-- History.record(desk) -/
theorem m_X4_record (l : Launch) (G : va_G) (ca : Nat → ClassId) (ad : Int → Nat) (A : Nat → Prop) (μ : zM) (n : Int) (h : Int → zM) (hH : zHi μ n h) : zMet l (cω G ca ad) A yX4_record cX4_record 2 none 3 83 [.ref (ad 157), .ref (ad 0)] μ (zpV (fun μ' => zHi μ' (sPushN n) (sPushH n h (vw μ 0)) ∧ (∀ c, c < 52 ∨ 159 ≤ c → μ' c = μ c))) := by
  refine zMet_of (by decide) (Nat.le_of_ble_eq_true rfl) (fun Γ hC => ?_)
  show Z Γ _ μ 0 [(0, .ref (ad 157)), (1, .ref (ad 0))] []
  have hpm := hH.1
  have hn0 := hH.2.2.1
  have hn1 := hH.2.1
  refine z_aload_n hC dX4_record_0 rfl ?_
  refine z_get hC iA_X4 rfl 1 (by decide) qF_X4_18 rfl dX4_record_1 cl_hist (cd_hist (ca := ca) (ad := ad)) rfl ?_
  refine z_top (b := n) (by rw [hn1]) ?_
  refine z_iconst hC dX4_record_4 ?_
  refine z_icmp_lt hC 12 dX4_record_5 (by decide) (by omega) (by omega) (fun c_1 => ?_) (fun c_1 => ?_)
  · refine z_aload_n hC dX4_record_12 rfl ?_
    refine z_get hC iA_X4 rfl 0 (by decide) qF_X4_11 rfl dX4_record_13 cl_hist (cd_hist (ca := ca) (ad := ad)) rfl ?_
    refine z_aload_n hC dX4_record_16 rfl ?_
    refine z_get hC iA_X4 rfl 1 (by decide) qF_X4_18 rfl dX4_record_17 cl_hist (cd_hist (ca := ca) (ad := ad)) rfl ?_
    refine z_top (b := n) (by rw [hn1]) ?_
    refine z_aald hC dX4_record_20 4 rfl cl_states (fun r i => 26 * r i) (cd_states (ca := ca) (ad := ad)) (by omega) (by omega) (by decide) ?_
    have hbn11 := hpm.1 n (by omega)
    refine z_aload_n hC dX4_record_21 rfl ?_
    refine z_callV hC [.ref (ad 0)] 1 rfl dX4_record_22 (fun l => m_X2_copyFrom l G ca ad _ μ (26 * (μ 158 n)) 0 (zb_s hpm (by omega)) zb_0 (by omega)) qM_X4_25 qI_X2_copyFrom qS_X2_copyFrom qi_X2 qC_X2_copyFrom (by decide +kernel) (by decide) (by decide) (cl_desk (zb_s hpm (by omega))) (cd_desk (zb_s hpm (by omega))) rfl (Nat.le_of_ble_eq_true rfl) (zk_void (fun μ2 hμ2 => ?_)) rfl
    obtain ⟨hμ2v, hμ2f⟩ := id hμ2
    refine z_aload_n hC dX4_record_25 rfl ?_
    refine z_dup hC dX4_record_26 rfl ?_
    refine z_get hC iA_X4 rfl 1 (by decide) qF_X4_18 rfl dX4_record_27 cl_hist (cd_hist (ca := ca) (ad := ad)) rfl ?_
    refine z_top (b := n) (by rw [hμ2f 157 (by omega), hn1]) ?_
    refine z_iconst hC dX4_record_30 ?_
    refine z_iadd hC dX4_record_31 ?_
    refine z_put hC iA_X4 rfl tyX4 tyX4_ok nmX4 1 (by decide) rfl rfl 1 rfl qF_X4_18 rfl dX4_record_32 cl_hist (cd_hist (ca := ca) (ad := ad)) (fun _ => rfl) (fun _ => Nat.le_of_ble_eq_true rfl) ?_
    refine z_nm (fun μ3 hμ3 => ?_)
    have K := zHi_put (by omega) hH hμ2v hμ2f hμ3
    exact z_vret hC dX4_record_35 ⟨rfl, by rw [show sPushN n = n + 1 by unfold sPushN; rw [if_neg (by omega)]]; exact zHi_eq K (fun i hi => by show (if i = n then vw μ 0 else h i) = (if n = 4 then (if i = 3 then vw μ 0 else h (i + 1)) else if i = n then vw μ 0 else h i); rw [if_neg (show ¬ n = 4 by omega)]), fun c9 hc9 => by rw [hμ3, zup_o (by omega), hμ2f c9 (by omega)]⟩
  · refine z_aload_n hC dX4_record_8 rfl ?_
    refine z_callV hC [] 0 rfl dX4_record_9 (fun l => m_X4_dropOldest l G ca ad _ μ hH.1) qM_X4_22 qI_X4_dropOldest qS_X4_dropOldest qi_X4 qC_X4_dropOldest (by decide +kernel) (by decide) (by decide) cl_hist (cd_hist (ca := ca) (ad := ad)) rfl (Nat.le_of_ble_eq_true rfl) (zk_void (fun μ4 hμ4 => ?_)) rfl
    obtain ⟨hμ40, hμ41, hμ42, hμ43, hμ4s, hμ4f⟩ := id hμ4
    have hH4 : zHi μ 4 h := by rw [show (4 : Int) = n by omega]; exact hH
    have hHd := zHi_drop hH4 hμ40 hμ41 hμ42 hμ43 hμ4s (fun c hc => hμ4f c (by omega))
    have hpd : zPm μ4 := hHd.1
    refine z_aload_n hC dX4_record_12 rfl ?_
    refine z_get hC iA_X4 rfl 0 (by decide) qF_X4_11 rfl dX4_record_13 cl_hist (cd_hist (ca := ca) (ad := ad)) rfl ?_
    refine z_aload_n hC dX4_record_16 rfl ?_
    refine z_get hC iA_X4 rfl 1 (by decide) qF_X4_18 rfl dX4_record_17 cl_hist (cd_hist (ca := ca) (ad := ad)) rfl ?_
    refine z_top (b := 3) (by rw [hμ4s]) ?_
    refine z_aald hC dX4_record_20 4 rfl cl_states (fun r i => 26 * r i) (cd_states (ca := ca) (ad := ad)) (by omega) (by omega) (by decide) ?_
    have hbn37 := hpd.1 3 (by omega)
    refine z_aload_n hC dX4_record_21 rfl ?_
    refine z_callV hC [.ref (ad 0)] 1 rfl dX4_record_22 (fun l => m_X2_copyFrom l G ca ad _ μ4 (26 * (μ4 158 3)) 0 (zb_s hpd (by omega)) zb_0 (by omega)) qM_X4_25 qI_X2_copyFrom qS_X2_copyFrom qi_X2 qC_X2_copyFrom (by decide +kernel) (by decide) (by decide) (cl_desk (zb_s hpd (by omega))) (cd_desk (zb_s hpd (by omega))) rfl (Nat.le_of_ble_eq_true rfl) (zk_void (fun μ5 hμ5 => ?_)) rfl
    obtain ⟨hμ5v, hμ5f⟩ := id hμ5
    refine z_aload_n hC dX4_record_25 rfl ?_
    refine z_dup hC dX4_record_26 rfl ?_
    refine z_get hC iA_X4 rfl 1 (by decide) qF_X4_18 rfl dX4_record_27 cl_hist (cd_hist (ca := ca) (ad := ad)) rfl ?_
    refine z_top (b := 3) (by rw [hμ5f 157 (by omega), hμ4s]) ?_
    refine z_iconst hC dX4_record_30 ?_
    refine z_iadd hC dX4_record_31 ?_
    refine z_put hC iA_X4 rfl tyX4 tyX4_ok nmX4 1 (by decide) rfl rfl 1 rfl qF_X4_18 rfl dX4_record_32 cl_hist (cd_hist (ca := ca) (ad := ad)) (fun _ => rfl) (fun _ => Nat.le_of_ble_eq_true rfl) ?_
    refine z_nm (fun μ6 hμ6 => ?_)
    have e0 : vw μ4 0 = vw μ 0 := vw_eq (fun o j hr => by rw [hμ4f _ (by unfold zrel at hr; omega)])
    have K := zHi_put (by omega) hHd hμ5v hμ5f hμ6
    exact z_vret hC dX4_record_35 ⟨rfl, by rw [show sPushN n = 3 + 1 by unfold sPushN; rw [if_pos (by omega)]; rfl]; exact zHi_eq K (fun i hi => by show (if i = 3 then vw μ4 0 else h (i + 1)) = (if n = 4 then (if i = 3 then vw μ 0 else h (i + 1)) else if i = n then vw μ 0 else h i); rw [if_pos (show n = 4 by omega), e0]), fun c9 hc9 => by rw [hμ6, zup_o (by omega), hμ5f c9 (by omega), hμ4f c9 (by omega)]⟩
end
section
/-! THE STATE: the desk d, n states h in the history, L characters t -/
def zTx (μ : zM) (L : Int) (t : Int → Int) : Prop := μ 159 1 = L ∧ (0 ≤ L ∧ L ≤ 60) ∧ ∀ i, 0 ≤ i ∧ i < L → μ 160 i = t i ∧ (32 ≤ t i ∧ t i ≤ 126)
def zSt (μ : zM) (d : zM) (n : Int) (h : Int → zM) (L : Int) (t : Int → Int) : Prop := vw μ 0 = d ∧ zHi μ n h ∧ zTx μ L t
/-- a change: kept, or an error -/
def sKeep (r : Int × zM) (d : zM) (n : Int) (h : Int → zM) : zM × Int × (Int → zM) := if -1000004 ≤ r.1 ∧ r.1 ≤ -1000001 then (d, n, h) else (r.2, sPushN n, sPushH n h d)
def zStK (μ : zM) (q : zM × Int × (Int → zM)) (L : Int) (t : Int → Int) : Prop := zSt μ q.1 q.2.1 q.2.2 L t
theorem zTx_fr {μ μ' : zM} {L : Int} {t : Int → Int} (H : zTx μ L t) (e1 : μ' 159 1 = μ 159 1) (e2 : ∀ i, 0 ≤ i ∧ i < L → μ' 160 i = μ 160 i) : zTx μ' L t := ⟨by rw [e1]; exact H.1, H.2.1, fun i hi => by rw [e2 i hi]; exact H.2.2 i hi⟩
/-- only the trial has changed, and what is not the state's -/
theorem zSt_fr {μ μ' d : zM} {n L : Int} {h : Int → zM} {t : Int → Int} (H : zSt μ d n h L t) (e0 : vw μ' 0 = vw μ 0) (e1 : ∀ c, 52 ≤ c ∧ c < 159 → μ' c = μ c) (e2 : μ' 159 1 = μ 159 1) (e3 : μ' 160 = μ 160) : zSt μ' d n h L t := ⟨e0.trans H.1, zHi_fr H.2.1 e1, zTx_fr H.2.2 e2 (fun i _ => by rw [e3])⟩
theorem zSt_tr {μ μ' d : zM} {n L : Int} {h : Int → zM} {t : Int → Int} (H : zSt μ d n h L t) (e : zFd μ 26 μ') : zSt μ' d n h L t := zSt_fr H (vw_eq (fun o i hr => by rw [e _ (by unfold zrel at hr; omega)])) (fun c hc => e c (by omega)) (by rw [e 159 (by omega)]) (e 160 (by omega))
theorem vw_fd {μ μ' : zM} {b b2 : Int} (e : zFd μ b2 μ') (h : b + 26 ≤ b2 ∨ b2 + 26 ≤ b) : vw μ' b = vw μ b := vw_eq (fun o i hr => by rw [e _ (by unfold zrel at hr; omega)])
/-- ships and cargoes that have not come are new; fixtures are fixed cargoes, each once, none too late -/
def zInv (d : zM) : Prop := bD d ∧ (∀ k, d 0 4 ≤ k ∧ k < 5 → d (6 + k) 5 = 0 ∧ d (6 + k) 6 = 0) ∧ (∀ c, d 0 5 ≤ c ∧ c < 10 → d (16 + c) 6 = 0) ∧
  (∀ k, 0 ≤ k ∧ k < d 0 4 → ∀ x, 0 ≤ x ∧ x < d (6 + k) 6 → 0 ≤ d (11 + k) x ∧ d (11 + k) x < d 0 5) ∧
  (∀ k, 0 ≤ k ∧ k < d 0 4 → ∀ x, 0 ≤ x ∧ x < d (6 + k) 6 → d (16 + d (11 + k) x) 6 = 1) ∧
  (∀ k k' x x', 0 ≤ k ∧ k < d 0 4 → 0 ≤ k' ∧ k' < d 0 4 → 0 ≤ x ∧ x < d (6 + k) 6 → 0 ≤ x' ∧ x' < d (6 + k') 6 → d (11 + k) x = d (11 + k') x' → k = k' ∧ x = x') ∧
  (∀ k, 0 ≤ k ∧ k < d 0 4 → ∀ n : Nat, n < sNum d k → 0 ≤ sMarg d k (d (11 + k) (n : Int)) (sPos d k n).1 (sPos d k n).2.1)
theorem zInv_F {d : zM} (H : zInv d) : ∀ k, 0 ≤ k ∧ k < d 0 4 → ∀ x, 0 ≤ x ∧ x < d (6 + k) 6 → 0 ≤ d (11 + k) x ∧ d (11 + k) x < d 0 5 := H.2.2.2.1
theorem zInv_G {d : zM} (H : zInv d) : ∀ k, 0 ≤ k ∧ k < d 0 4 → zGo d k (sNum d k) := by
  intro k hk
  obtain ⟨hB, _, _, hF, _, _, hL⟩ := H
  have hs := hB.2.2.1 k hk
  have hNe := sNum_e (d := d) (k := k) hs.2.2.2.2.2.1
  have hF' : ∀ n : Nat, n < sNum d k → 0 ≤ d (11 + k) (n : Int) ∧ d (11 + k) (n : Int) < d 0 5 := fun n hn => hF k hk n (by omega)
  refine ⟨hF', fun n hn => ?_⟩
  have := sPos_b hB hk n (fun m hm => hF' m (by omega)) (fun m hm => hL k hk m (by omega))
  exact ⟨this.1, this.2.1, by omega⟩
theorem zpigeon : ∀ (N : Nat) (f : Nat → Nat), (∀ i, i < N + 1 → f i < N) → (∀ i j, i < N + 1 → j < N + 1 → f i = f j → i = j) → False := by
  intro N
  induction N with
  | zero => intro f h _; exact absurd (h 0 (by omega)) (by omega)
  | succ N ih =>
    intro f h hi
    refine ih (fun i => if f i = N then f (N + 1) else f i) (fun i hi2 => ?_) (fun i j h1 h2 e => ?_)
    · have a := h i (by omega)
      have b := h (N + 1) (by omega)
      split
      · rename_i q
        have : f (N + 1) ≠ N := fun z => absurd (hi i (N + 1) (by omega) (by omega) (q.trans z.symm)) (by omega)
        omega
      · omega
    · split at e
      · rename_i q1
        split at e
        · rename_i q2
          exact hi i j (by omega) (by omega) (q1.trans q2.symm)
        · exact absurd (hi (N + 1) j (by omega) (by omega) e) (by omega)
      · split at e
        · exact absurd (hi i (N + 1) (by omega) (by omega) e) (by omega)
        · exact hi i j (by omega) (by omega) e
theorem zInv_full {d : zM} (H : zInv d) : ∀ k c, 0 ≤ k ∧ k < d 0 4 → 0 ≤ c ∧ c < d 0 5 → d (16 + c) 6 = 0 → d (6 + k) 6 < 10 := by
  intro k c hk hc h0
  obtain ⟨hB, _, _, hF, hS, hI, _⟩ := H
  have hN := hB.1.2
  by_cases q : d (6 + k) 6 < 10
  · exact q
  · exfalso
    refine zpigeon 10 (fun i => if i = 10 then c.toNat else (d (11 + k) (i : Int)).toNat) (fun i hi => ?_) (fun i j hi hj e => ?_)
    · split
      · omega
      · have := hF k hk i (by omega)
        omega
    · have g : ∀ m : Nat, m < 10 → (d (11 + k) (m : Int)).toNat ≠ c.toNat := by
        intro m hm z
        have f1 := hF k hk m (by omega)
        have f2 := hS k hk m (by omega)
        have : d (11 + k) (m : Int) = c := by omega
        rw [this, h0] at f2
        exact absurd f2 (by decide)
      split at e
      · split at e
        · omega
        · exact absurd e.symm (g j (by omega))
      · split at e
        · exact absurd e (g i (by omega))
        · have f1 := hF k hk i (by omega)
          have f2 := hF k hk j (by omega)
          have := (hI k k i j hk hk (by omega) (by omega) (by omega)).2
          omega
def opUndo (d : zM) (n : Int) (h : Int → zM) : Int × (zM × Int × (Int → zM)) := if 1 ≤ n then (n - 1, (h (n - 1), n - 1, h)) else (-1000002, (d, n, h))
end
section
set_option maxHeartbeats 4000000 in
set_option maxRecDepth 100000 in
/-- freshTrial() -/
theorem m_X7_freshTrial (l : Launch) (G : va_G) (ca : Nat → ClassId) (ad : Int → Nat) (A : Nat → Prop) (μ : zM) : zMet l (cω G ca ad) A yX7_freshTrial cX7_freshTrial 1 (some (.object "ShipFixtures$Desk")) 3 83 [.ref (ad 156)] μ (zpI (.ref (ad 26)) (fun μ' => vw μ' 26 = vw μ 0 ∧ zFd μ 26 μ')) := by
  refine zMet_of (by decide) (Nat.le_of_ble_eq_true rfl) (fun Γ hC => ?_)
  show Z Γ _ μ 0 [(0, .ref (ad 156))] []
  refine z_aload_n hC dX7_freshTrial_0 rfl ?_
  refine z_get hC iA_X7 rfl 1 (by decide) qF_X7_16 rfl dX7_freshTrial_1 cl_main (cd_main (ca := ca) (ad := ad)) rfl ?_
  refine z_aload_n hC dX7_freshTrial_4 rfl ?_
  refine z_get hC iA_X7 rfl 0 (by decide) qF_X7_10 rfl dX7_freshTrial_5 cl_main (cd_main (ca := ca) (ad := ad)) rfl ?_
  refine z_callV hC [.ref (ad 0)] 1 rfl dX7_freshTrial_8 (fun l => m_X2_copyFrom l G ca ad _ μ 26 0 zb_26 zb_0 (by omega)) qM_X7_280 qI_X2_copyFrom qS_X2_copyFrom qi_X2 qC_X2_copyFrom (by decide +kernel) (by decide) (by decide) (cl_desk zb_26) (cd_desk (ca := ca) (ad := ad) zb_26) rfl (Nat.le_of_ble_eq_true rfl) (zk_void (fun μ1 hμ1 => ?_)) rfl
  obtain ⟨hμ1v, hμ1f⟩ := id hμ1
  refine z_aload_n hC dX7_freshTrial_11 rfl ?_
  refine z_get hC iA_X7 rfl 1 (by decide) qF_X7_16 rfl dX7_freshTrial_12 cl_main (cd_main (ca := ca) (ad := ad)) rfl ?_
  exact z_aret hC dX7_freshTrial_15 ⟨rfl, hμ1⟩

set_option maxHeartbeats 4000000 in
set_option maxRecDepth 100000 in
/-- keep(a) -/
theorem m_X7_keep (l : Launch) (G : va_G) (ca : Nat → ClassId) (ad : Int → Nat) (A : Nat → Prop) (μ : zM) (d : zM) (n : Int) (h : Int → zM) (L : Int) (t : Int → Int) (hX : zSt μ d n h L t) (a : Int) (r : zM) (ha : -2147483648 ≤ a ∧ a ≤ 2147483647) (h26 : vw μ 26 = r) : zMet l (cω G ca ad) A yX7_keep cX7_keep 2 (some .int) 4 104 [.ref (ad 156), .int (iZ a)] μ (zpI (.int (iZ a)) (fun μ' => zStK μ' (sKeep (a, r) d n h) L t)) := by
  refine zMet_of (by decide) (Nat.le_of_ble_eq_true rfl) (fun Γ hC => ?_)
  show Z Γ _ μ 0 [(0, .ref (ad 156)), (1, .int (iZ a))] []
  refine z_iload_n hC dX7_keep_0 rfl ?_
  refine z_callS hC [.int (iZ a)] 1 rfl dX7_keep_1 (fun l => m_X7_isError l _ _ _ a (by omega)) qM_X7_284 qT_X7_isError qi_X7 qC_X7_isError (by decide +kernel) (by decide) (by decide) (Nat.le_of_ble_eq_true rfl) (zk_pure ?_) rfl
  refine z_ifb_ne hC 29 dX7_keep_4 (by decide) (fun c_1 => ?_) (fun c_1 => ?_)
  · refine z_iload_n hC dX7_keep_29 rfl ?_
    exact z_iret hC dX7_keep_30 ⟨rfl, by unfold sKeep; rw [if_pos (by omega)]; exact hX⟩
  · refine z_aload_n hC dX7_keep_7 rfl ?_
    refine z_get hC iA_X7 rfl 2 (by decide) qF_X7_22 rfl dX7_keep_8 cl_main (cd_main (ca := ca) (ad := ad)) rfl ?_
    refine z_aload_n hC dX7_keep_11 rfl ?_
    refine z_get hC iA_X7 rfl 0 (by decide) qF_X7_10 rfl dX7_keep_12 cl_main (cd_main (ca := ca) (ad := ad)) rfl ?_
    refine z_callV hC [.ref (ad 0)] 1 rfl dX7_keep_15 (fun l => m_X4_record l G ca ad _ μ n h hX.2.1) qM_X7_287 qI_X4_record qS_X4_record qi_X4 qC_X4_record (by decide +kernel) (by decide) (by decide) cl_hist (cd_hist (ca := ca) (ad := ad)) rfl (Nat.le_of_ble_eq_true rfl) (zk_void (fun μ2 hμ2 => ?_)) rfl
    obtain ⟨hμ2v, hμ2f⟩ := id hμ2
    refine z_aload_n hC dX7_keep_18 rfl ?_
    refine z_get hC iA_X7 rfl 0 (by decide) qF_X7_10 rfl dX7_keep_19 cl_main (cd_main (ca := ca) (ad := ad)) rfl ?_
    refine z_aload_n hC dX7_keep_22 rfl ?_
    refine z_get hC iA_X7 rfl 1 (by decide) qF_X7_16 rfl dX7_keep_23 cl_main (cd_main (ca := ca) (ad := ad)) rfl ?_
    refine z_callV hC [.ref (ad 26)] 1 rfl dX7_keep_26 (fun l => m_X2_copyFrom l G ca ad _ μ2 0 26 zb_0 zb_26 (by omega)) qM_X7_280 qI_X2_copyFrom qS_X2_copyFrom qi_X2 qC_X2_copyFrom (by decide +kernel) (by decide) (by decide) (cl_desk zb_0) (cd_desk (ca := ca) (ad := ad) zb_0) rfl (Nat.le_of_ble_eq_true rfl) (zk_void (fun μ3 hμ3 => ?_)) rfl
    obtain ⟨hμ3v, hμ3f⟩ := id hμ3
    refine z_iload_n hC dX7_keep_29 rfl ?_
    have e26 : vw μ2 26 = vw μ 26 := vw_eq (fun o i hr => by rw [hμ2f _ (by unfold zrel at hr; omega)])
    have K : zSt μ3 r (sPushN n) (sPushH n h d) L t := ⟨by rw [hμ3v, e26]; exact h26, by rw [← hX.1]; exact zHi_fr hμ2v (fun c hc => hμ3f c (by omega)), zTx_fr hX.2.2 (by rw [hμ3f 159 (by omega), hμ2f 159 (by omega)]) (fun i _ => by rw [hμ3f 160 (by omega), hμ2f 160 (by omega)])⟩
    exact z_iret hC dX7_keep_30 ⟨rfl, by unfold sKeep; rw [if_neg (by omega)]; exact K⟩

set_option maxHeartbeats 4000000 in
set_option maxRecDepth 100000 in
/-- port -/
theorem m_X7_port (l : Launch) (G : va_G) (ca : Nat → ClassId) (ad : Int → Nat) (A : Nat → Prop) (μ : zM) (d : zM) (n : Int) (h : Int → zM) (L : Int) (t : Int → Int) (hX : zSt μ d n h L t) (hI : zInv d) (p x y : Int) (hp : -2147483648 ≤ p ∧ p ≤ 2147483647) (hx : -2147483648 ≤ x ∧ x ≤ 2147483647) (hy : -2147483648 ≤ y ∧ y ≤ 2147483647) (hr : -2147483648 ≤ (opPort d p x y).1 ∧ (opPort d p x y).1 ≤ 2147483647) : zMet l (cω G ca ad) A yX7_port cX7_port 4 (some .int) 5 125 [.ref (ad 156), .int (iZ p), .int (iZ x), .int (iZ y)] μ (zpI (.int (iZ (opPort d p x y).1)) (fun μ' => zStK μ' (sKeep (opPort d p x y) d n h) L t)) := by
  refine zMet_of (by decide) (Nat.le_of_ble_eq_true rfl) (fun Γ hC => ?_)
  show Z Γ _ μ 0 [(0, .ref (ad 156)), (1, .int (iZ p)), (2, .int (iZ x)), (3, .int (iZ y))] []
  refine z_aload_n hC dX7_port_0 rfl ?_
  refine z_aload_n hC dX7_port_1 rfl ?_
  refine z_callV hC [] 0 rfl dX7_port_2 (fun l => m_X7_freshTrial l G ca ad _ μ) qM_X7_40 qI_X7_freshTrial qS_X7_freshTrial qi_X7 qC_X7_freshTrial (by decide +kernel) (by decide) (by decide) cl_main (cd_main (ca := ca) (ad := ad)) rfl (Nat.le_of_ble_eq_true rfl) (zk_int (fun μ1 hμ1 => ?_)) rfl
  obtain ⟨hμ1v, hμ1f⟩ := id hμ1
  have hX1 := zSt_tr hX hμ1f
  have hd1 : vw μ1 26 = d := by rw [hμ1v]; exact hX.1
  refine z_iload_n hC dX7_port_5 rfl ?_
  refine z_iload_n hC dX7_port_6 rfl ?_
  refine z_iload_n hC dX7_port_7 rfl ?_
  refine z_callV hC [.int (iZ p), .int (iZ x), .int (iZ y)] 3 rfl dX7_port_8 (fun l => m_X2_movePort l G ca ad _ μ1 26 zb_26 d hd1 p x y hp hx hy hI.1) qM_X7_44 qI_X2_movePort qS_X2_movePort qi_X2 qC_X2_movePort (by decide +kernel) (by decide) (by decide) (cl_desk zb_26) (cd_desk (ca := ca) (ad := ad) zb_26) rfl (Nat.le_of_ble_eq_true rfl) (zk_int (fun μ2 hμ2 => ?_)) rfl
  obtain ⟨hμ2v, hμ2f⟩ := id hμ2
  have hX2 := zSt_tr hX1 hμ2f
  refine z_callV hC [.int (iZ ((opPort d p x y).1))] 1 rfl dX7_port_11 (fun l => m_X7_keep l G ca ad _ μ2 d n h L t hX2 (opPort d p x y).1 (opPort d p x y).2 hr hμ2v) qM_X7_48 qI_X7_keep qS_X7_keep qi_X7 qC_X7_keep (by decide +kernel) (by decide) (by decide) cl_main (cd_main (ca := ca) (ad := ad)) rfl (Nat.le_of_ble_eq_true rfl) (zk_int (fun μ3 hμ3 => ?_)) rfl
  exact z_iret hC dX7_port_14 ⟨rfl, hμ3⟩

set_option maxHeartbeats 4000000 in
set_option maxRecDepth 100000 in
/-- ship -/
theorem m_X7_ship (l : Launch) (G : va_G) (ca : Nat → ClassId) (ad : Int → Nat) (A : Nat → Prop) (μ : zM) (d : zM) (n : Int) (h : Int → zM) (L : Int) (t : Int → Int) (hX : zSt μ d n h L t) (hI : zInv d) (z v u p w : Int) (hz : -2147483648 ≤ z ∧ z ≤ 2147483647) (hv : -2147483648 ≤ v ∧ v ≤ 2147483647) (hu : -2147483648 ≤ u ∧ u ≤ 2147483647) (hp : -2147483648 ≤ p ∧ p ≤ 2147483647) (hw : -2147483648 ≤ w ∧ w ≤ 2147483647) (hr : -2147483648 ≤ (opShip d z v u p w).1 ∧ (opShip d z v u p w).1 ≤ 2147483647) : zMet l (cω G ca ad) A yX7_ship cX7_ship 6 (some .int) 5 125 [.ref (ad 156), .int (iZ z), .int (iZ v), .int (iZ u), .int (iZ p), .int (iZ w)] μ (zpI (.int (iZ (opShip d z v u p w).1)) (fun μ' => zStK μ' (sKeep (opShip d z v u p w) d n h) L t)) := by
  refine zMet_of (by decide) (Nat.le_of_ble_eq_true rfl) (fun Γ hC => ?_)
  show Z Γ _ μ 0 [(0, .ref (ad 156)), (1, .int (iZ z)), (2, .int (iZ v)), (3, .int (iZ u)), (4, .int (iZ p)), (5, .int (iZ w))] []
  refine z_aload_n hC dX7_ship_0 rfl ?_
  refine z_aload_n hC dX7_ship_1 rfl ?_
  refine z_callV hC [] 0 rfl dX7_ship_2 (fun l => m_X7_freshTrial l G ca ad _ μ) qM_X7_40 qI_X7_freshTrial qS_X7_freshTrial qi_X7 qC_X7_freshTrial (by decide +kernel) (by decide) (by decide) cl_main (cd_main (ca := ca) (ad := ad)) rfl (Nat.le_of_ble_eq_true rfl) (zk_int (fun μ1 hμ1 => ?_)) rfl
  obtain ⟨hμ1v, hμ1f⟩ := id hμ1
  have hX1 := zSt_tr hX hμ1f
  have hd1 : vw μ1 26 = d := by rw [hμ1v]; exact hX.1
  refine z_iload_n hC dX7_ship_5 rfl ?_
  refine z_iload_n hC dX7_ship_6 rfl ?_
  refine z_iload_n hC dX7_ship_7 rfl ?_
  refine z_iload hC dX7_ship_8 rfl ?_
  refine z_iload hC dX7_ship_10 rfl ?_
  refine z_callV hC [.int (iZ z), .int (iZ v), .int (iZ u), .int (iZ p), .int (iZ w)] 5 rfl dX7_ship_12 (fun l => m_X2_addShip l G ca ad _ μ1 26 zb_26 d hd1 z v u p w hz hv hu hp hw hI.1.1) qM_X7_52 qI_X2_addShip qS_X2_addShip qi_X2 qC_X2_addShip (by decide +kernel) (by decide) (by decide) (cl_desk zb_26) (cd_desk (ca := ca) (ad := ad) zb_26) rfl (Nat.le_of_ble_eq_true rfl) (zk_int (fun μ2 hμ2 => ?_)) rfl
  obtain ⟨hμ2v, hμ2f⟩ := id hμ2
  have hX2 := zSt_tr hX1 hμ2f
  refine z_callV hC [.int (iZ ((opShip d z v u p w).1))] 1 rfl dX7_ship_15 (fun l => m_X7_keep l G ca ad _ μ2 d n h L t hX2 (opShip d z v u p w).1 (opShip d z v u p w).2 hr hμ2v) qM_X7_48 qI_X7_keep qS_X7_keep qi_X7 qC_X7_keep (by decide +kernel) (by decide) (by decide) cl_main (cd_main (ca := ca) (ad := ad)) rfl (Nat.le_of_ble_eq_true rfl) (zk_int (fun μ3 hμ3 => ?_)) rfl
  exact z_iret hC dX7_ship_18 ⟨rfl, hμ3⟩

set_option maxHeartbeats 4000000 in
set_option maxRecDepth 100000 in
/-- cargo -/
theorem m_X7_cargo (l : Launch) (G : va_G) (ca : Nat → ClassId) (ad : Int → Nat) (A : Nat → Prop) (μ : zM) (d : zM) (n : Int) (h : Int → zM) (L : Int) (t : Int → Int) (hX : zSt μ d n h L t) (hI : zInv d) (a g u f v w : Int) (ha : -2147483648 ≤ a ∧ a ≤ 2147483647) (hg : -2147483648 ≤ g ∧ g ≤ 2147483647) (hu : -2147483648 ≤ u ∧ u ≤ 2147483647) (hf : -2147483648 ≤ f ∧ f ≤ 2147483647) (hv : -2147483648 ≤ v ∧ v ≤ 2147483647) (hw : -2147483648 ≤ w ∧ w ≤ 2147483647) (hr : -2147483648 ≤ (opCargo d a g u f v w).1 ∧ (opCargo d a g u f v w).1 ≤ 2147483647) : zMet l (cω G ca ad) A yX7_cargo cX7_cargo 7 (some .int) 5 125 [.ref (ad 156), .int (iZ a), .int (iZ g), .int (iZ u), .int (iZ f), .int (iZ v), .int (iZ w)] μ (zpI (.int (iZ (opCargo d a g u f v w).1)) (fun μ' => zStK μ' (sKeep (opCargo d a g u f v w) d n h) L t)) := by
  refine zMet_of (by decide) (Nat.le_of_ble_eq_true rfl) (fun Γ hC => ?_)
  show Z Γ _ μ 0 [(0, .ref (ad 156)), (1, .int (iZ a)), (2, .int (iZ g)), (3, .int (iZ u)), (4, .int (iZ f)), (5, .int (iZ v)), (6, .int (iZ w))] []
  refine z_aload_n hC dX7_cargo_0 rfl ?_
  refine z_aload_n hC dX7_cargo_1 rfl ?_
  refine z_callV hC [] 0 rfl dX7_cargo_2 (fun l => m_X7_freshTrial l G ca ad _ μ) qM_X7_40 qI_X7_freshTrial qS_X7_freshTrial qi_X7 qC_X7_freshTrial (by decide +kernel) (by decide) (by decide) cl_main (cd_main (ca := ca) (ad := ad)) rfl (Nat.le_of_ble_eq_true rfl) (zk_int (fun μ1 hμ1 => ?_)) rfl
  obtain ⟨hμ1v, hμ1f⟩ := id hμ1
  have hX1 := zSt_tr hX hμ1f
  have hd1 : vw μ1 26 = d := by rw [hμ1v]; exact hX.1
  refine z_iload_n hC dX7_cargo_5 rfl ?_
  refine z_iload_n hC dX7_cargo_6 rfl ?_
  refine z_iload_n hC dX7_cargo_7 rfl ?_
  refine z_iload hC dX7_cargo_8 rfl ?_
  refine z_iload hC dX7_cargo_10 rfl ?_
  refine z_iload hC dX7_cargo_12 rfl ?_
  refine z_callV hC [.int (iZ a), .int (iZ g), .int (iZ u), .int (iZ f), .int (iZ v), .int (iZ w)] 6 rfl dX7_cargo_14 (fun l => m_X2_addCargo l G ca ad _ μ1 26 zb_26 d hd1 a g u f v w ha hg hu hf hv hw hI.1.1) qM_X7_56 qI_X2_addCargo qS_X2_addCargo qi_X2 qC_X2_addCargo (by decide +kernel) (by decide) (by decide) (cl_desk zb_26) (cd_desk (ca := ca) (ad := ad) zb_26) rfl (Nat.le_of_ble_eq_true rfl) (zk_int (fun μ2 hμ2 => ?_)) rfl
  obtain ⟨hμ2v, hμ2f⟩ := id hμ2
  have hX2 := zSt_tr hX1 hμ2f
  refine z_callV hC [.int (iZ ((opCargo d a g u f v w).1))] 1 rfl dX7_cargo_17 (fun l => m_X7_keep l G ca ad _ μ2 d n h L t hX2 (opCargo d a g u f v w).1 (opCargo d a g u f v w).2 hr hμ2v) qM_X7_48 qI_X7_keep qS_X7_keep qi_X7 qC_X7_keep (by decide +kernel) (by decide) (by decide) cl_main (cd_main (ca := ca) (ad := ad)) rfl (Nat.le_of_ble_eq_true rfl) (zk_int (fun μ3 hμ3 => ?_)) rfl
  exact z_iret hC dX7_cargo_20 ⟨rfl, hμ3⟩

set_option maxHeartbeats 4000000 in
set_option maxRecDepth 100000 in
/-- fix -/
theorem m_X7_fix (l : Launch) (G : va_G) (ca : Nat → ClassId) (ad : Int → Nat) (A : Nat → Prop) (μ : zM) (d : zM) (n : Int) (h : Int → zM) (L : Int) (t : Int → Int) (hX : zSt μ d n h L t) (hI : zInv d) (k c : Int) (hk : -2147483648 ≤ k ∧ k ≤ 2147483647) (hc : -2147483648 ≤ c ∧ c ≤ 2147483647) (hr : -2147483648 ≤ (opFix d k c).1 ∧ (opFix d k c).1 ≤ 2147483647) : zMet l (cω G ca ad) A yX7_fix cX7_fix 3 (some .int) 5 136 [.ref (ad 156), .int (iZ k), .int (iZ c)] μ (zpI (.int (iZ (opFix d k c).1)) (fun μ' => zStK μ' (sKeep (opFix d k c) d n h) L t)) := by
  refine zMet_of (by decide) (Nat.le_of_ble_eq_true rfl) (fun Γ hC => ?_)
  show Z Γ _ μ 0 [(0, .ref (ad 156)), (1, .int (iZ k)), (2, .int (iZ c))] []
  refine z_aload_n hC dX7_fix_0 rfl ?_
  refine z_aload_n hC dX7_fix_1 rfl ?_
  refine z_callV hC [] 0 rfl dX7_fix_2 (fun l => m_X7_freshTrial l G ca ad _ μ) qM_X7_40 qI_X7_freshTrial qS_X7_freshTrial qi_X7 qC_X7_freshTrial (by decide +kernel) (by decide) (by decide) cl_main (cd_main (ca := ca) (ad := ad)) rfl (Nat.le_of_ble_eq_true rfl) (zk_int (fun μ1 hμ1 => ?_)) rfl
  obtain ⟨hμ1v, hμ1f⟩ := id hμ1
  have hX1 := zSt_tr hX hμ1f
  have hd1 : vw μ1 26 = d := by rw [hμ1v]; exact hX.1
  refine z_iload_n hC dX7_fix_5 rfl ?_
  refine z_iload_n hC dX7_fix_6 rfl ?_
  refine z_callV hC [.int (iZ k), .int (iZ c)] 2 rfl dX7_fix_7 (fun l => m_X2_fixShip l G ca ad _ μ1 26 zb_26 d hd1 k c hk hc hI.1 (zInv_G hI) (zInv_full hI)) qM_X7_60 qI_X2_fixShip qS_X2_fixShip qi_X2 qC_X2_fixShip (by decide +kernel) (by decide) (by decide) (cl_desk zb_26) (cd_desk (ca := ca) (ad := ad) zb_26) rfl (Nat.le_of_ble_eq_true rfl) (zk_int (fun μ2 hμ2 => ?_)) rfl
  obtain ⟨hμ2v, hμ2f⟩ := id hμ2
  have hX2 := zSt_tr hX1 hμ2f
  refine z_callV hC [.int (iZ ((opFix d k c).1))] 1 rfl dX7_fix_10 (fun l => m_X7_keep l G ca ad _ μ2 d n h L t hX2 (opFix d k c).1 (opFix d k c).2 hr hμ2v) qM_X7_48 qI_X7_keep qS_X7_keep qi_X7 qC_X7_keep (by decide +kernel) (by decide) (by decide) cl_main (cd_main (ca := ca) (ad := ad)) rfl (Nat.le_of_ble_eq_true rfl) (zk_int (fun μ3 hμ3 => ?_)) rfl
  exact z_iret hC dX7_fix_13 ⟨rfl, hμ3⟩

set_option maxHeartbeats 4000000 in
set_option maxRecDepth 100000 in
/-- delay -/
theorem m_X7_delay (l : Launch) (G : va_G) (ca : Nat → ClassId) (ad : Int → Nat) (A : Nat → Prop) (μ : zM) (d : zM) (n : Int) (h : Int → zM) (L : Int) (t : Int → Int) (hX : zSt μ d n h L t) (hI : zInv d) (k v : Int) (hk : -2147483648 ≤ k ∧ k ≤ 2147483647) (hv : -2147483648 ≤ v ∧ v ≤ 2147483647) (hr : -2147483648 ≤ (opDelay d k v).1 ∧ (opDelay d k v).1 ≤ 2147483647) : zMet l (cω G ca ad) A yX7_delay cX7_delay 3 (some .int) 5 125 [.ref (ad 156), .int (iZ k), .int (iZ v)] μ (zpI (.int (iZ (opDelay d k v).1)) (fun μ' => zStK μ' (sKeep (opDelay d k v) d n h) L t)) := by
  refine zMet_of (by decide) (Nat.le_of_ble_eq_true rfl) (fun Γ hC => ?_)
  show Z Γ _ μ 0 [(0, .ref (ad 156)), (1, .int (iZ k)), (2, .int (iZ v))] []
  refine z_aload_n hC dX7_delay_0 rfl ?_
  refine z_aload_n hC dX7_delay_1 rfl ?_
  refine z_callV hC [] 0 rfl dX7_delay_2 (fun l => m_X7_freshTrial l G ca ad _ μ) qM_X7_40 qI_X7_freshTrial qS_X7_freshTrial qi_X7 qC_X7_freshTrial (by decide +kernel) (by decide) (by decide) cl_main (cd_main (ca := ca) (ad := ad)) rfl (Nat.le_of_ble_eq_true rfl) (zk_int (fun μ1 hμ1 => ?_)) rfl
  obtain ⟨hμ1v, hμ1f⟩ := id hμ1
  have hX1 := zSt_tr hX hμ1f
  have hd1 : vw μ1 26 = d := by rw [hμ1v]; exact hX.1
  refine z_iload_n hC dX7_delay_5 rfl ?_
  refine z_iload_n hC dX7_delay_6 rfl ?_
  refine z_callV hC [.int (iZ k), .int (iZ v)] 2 rfl dX7_delay_7 (fun l => m_X2_delayShip l G ca ad _ μ1 26 zb_26 d hd1 k v hk hv hI.1 (zInv_F hI)) qM_X7_64 qI_X2_delayShip qS_X2_delayShip qi_X2 qC_X2_delayShip (by decide +kernel) (by decide) (by decide) (cl_desk zb_26) (cd_desk (ca := ca) (ad := ad) zb_26) rfl (Nat.le_of_ble_eq_true rfl) (zk_int (fun μ2 hμ2 => ?_)) rfl
  obtain ⟨hμ2v, hμ2f⟩ := id hμ2
  have hX2 := zSt_tr hX1 hμ2f
  refine z_callV hC [.int (iZ ((opDelay d k v).1))] 1 rfl dX7_delay_10 (fun l => m_X7_keep l G ca ad _ μ2 d n h L t hX2 (opDelay d k v).1 (opDelay d k v).2 hr hμ2v) qM_X7_48 qI_X7_keep qS_X7_keep qi_X7 qC_X7_keep (by decide +kernel) (by decide) (by decide) cl_main (cd_main (ca := ca) (ad := ad)) rfl (Nat.le_of_ble_eq_true rfl) (zk_int (fun μ3 hμ3 => ?_)) rfl
  exact z_iret hC dX7_delay_13 ⟨rfl, hμ3⟩

set_option maxHeartbeats 4000000 in
set_option maxRecDepth 100000 in
/-- callOff -/
theorem m_X7_callOff (l : Launch) (G : va_G) (ca : Nat → ClassId) (ad : Int → Nat) (A : Nat → Prop) (μ : zM) (d : zM) (n : Int) (h : Int → zM) (L : Int) (t : Int → Int) (hX : zSt μ d n h L t) (hI : zInv d) (k : Int) (hk : -2147483648 ≤ k ∧ k ≤ 2147483647) (hr : -2147483648 ≤ (opOff d k).1 ∧ (opOff d k).1 ≤ 2147483647) : zMet l (cω G ca ad) A yX7_callOff cX7_callOff 2 (some .int) 5 125 [.ref (ad 156), .int (iZ k)] μ (zpI (.int (iZ (opOff d k).1)) (fun μ' => zStK μ' (sKeep (opOff d k) d n h) L t)) := by
  refine zMet_of (by decide) (Nat.le_of_ble_eq_true rfl) (fun Γ hC => ?_)
  show Z Γ _ μ 0 [(0, .ref (ad 156)), (1, .int (iZ k))] []
  refine z_aload_n hC dX7_callOff_0 rfl ?_
  refine z_aload_n hC dX7_callOff_1 rfl ?_
  refine z_callV hC [] 0 rfl dX7_callOff_2 (fun l => m_X7_freshTrial l G ca ad _ μ) qM_X7_40 qI_X7_freshTrial qS_X7_freshTrial qi_X7 qC_X7_freshTrial (by decide +kernel) (by decide) (by decide) cl_main (cd_main (ca := ca) (ad := ad)) rfl (Nat.le_of_ble_eq_true rfl) (zk_int (fun μ1 hμ1 => ?_)) rfl
  obtain ⟨hμ1v, hμ1f⟩ := id hμ1
  have hX1 := zSt_tr hX hμ1f
  have hd1 : vw μ1 26 = d := by rw [hμ1v]; exact hX.1
  refine z_iload_n hC dX7_callOff_5 rfl ?_
  refine z_callV hC [.int (iZ k)] 1 rfl dX7_callOff_6 (fun l => m_X2_callOffLast l G ca ad _ μ1 26 zb_26 d hd1 k hk hI.1 (zInv_F hI)) qM_X7_67 qI_X2_callOffLast qS_X2_callOffLast qi_X2 qC_X2_callOffLast (by decide +kernel) (by decide) (by decide) (cl_desk zb_26) (cd_desk (ca := ca) (ad := ad) zb_26) rfl (Nat.le_of_ble_eq_true rfl) (zk_int (fun μ2 hμ2 => ?_)) rfl
  obtain ⟨hμ2v, hμ2f⟩ := id hμ2
  have hX2 := zSt_tr hX1 hμ2f
  refine z_callV hC [.int (iZ ((opOff d k).1))] 1 rfl dX7_callOff_9 (fun l => m_X7_keep l G ca ad _ μ2 d n h L t hX2 (opOff d k).1 (opOff d k).2 hr hμ2v) qM_X7_48 qI_X7_keep qS_X7_keep qi_X7 qC_X7_keep (by decide +kernel) (by decide) (by decide) cl_main (cd_main (ca := ca) (ad := ad)) rfl (Nat.le_of_ble_eq_true rfl) (zk_int (fun μ3 hμ3 => ?_)) rfl
  exact z_iret hC dX7_callOff_12 ⟨rfl, hμ3⟩

set_option maxHeartbeats 4000000 in
set_option maxRecDepth 100000 in
/-- settle -/
theorem m_X7_settle (l : Launch) (G : va_G) (ca : Nat → ClassId) (ad : Int → Nat) (A : Nat → Prop) (μ : zM) (d : zM) (n : Int) (h : Int → zM) (L : Int) (t : Int → Int) (hX : zSt μ d n h L t) (hI : zInv d) (k : Int) (hk : -2147483648 ≤ k ∧ k ≤ 2147483647) (hr : -2147483648 ≤ (opSettle d k).1 ∧ (opSettle d k).1 ≤ 2147483647) : zMet l (cω G ca ad) A yX7_settle cX7_settle 2 (some .int) 5 133 [.ref (ad 156), .int (iZ k)] μ (zpI (.int (iZ (opSettle d k).1)) (fun μ' => zStK μ' (sKeep (opSettle d k) d n h) L t)) := by
  refine zMet_of (by decide) (Nat.le_of_ble_eq_true rfl) (fun Γ hC => ?_)
  show Z Γ _ μ 0 [(0, .ref (ad 156)), (1, .int (iZ k))] []
  refine z_aload_n hC dX7_settle_0 rfl ?_
  refine z_aload_n hC dX7_settle_1 rfl ?_
  refine z_callV hC [] 0 rfl dX7_settle_2 (fun l => m_X7_freshTrial l G ca ad _ μ) qM_X7_40 qI_X7_freshTrial qS_X7_freshTrial qi_X7 qC_X7_freshTrial (by decide +kernel) (by decide) (by decide) cl_main (cd_main (ca := ca) (ad := ad)) rfl (Nat.le_of_ble_eq_true rfl) (zk_int (fun μ1 hμ1 => ?_)) rfl
  obtain ⟨hμ1v, hμ1f⟩ := id hμ1
  have hX1 := zSt_tr hX hμ1f
  have hd1 : vw μ1 26 = d := by rw [hμ1v]; exact hX.1
  refine z_iload_n hC dX7_settle_5 rfl ?_
  refine z_callV hC [.int (iZ k)] 1 rfl dX7_settle_6 (fun l => m_X2_settleShip l G ca ad _ μ1 26 zb_26 d hd1 k hk hI.1 (zInv_G hI) (zInv_F hI)) qM_X7_70 qI_X2_settleShip qS_X2_settleShip qi_X2 qC_X2_settleShip (by decide +kernel) (by decide) (by decide) (cl_desk zb_26) (cd_desk (ca := ca) (ad := ad) zb_26) rfl (Nat.le_of_ble_eq_true rfl) (zk_int (fun μ2 hμ2 => ?_)) rfl
  obtain ⟨hμ2v, hμ2f⟩ := id hμ2
  have hX2 := zSt_tr hX1 hμ2f
  refine z_callV hC [.int (iZ ((opSettle d k).1))] 1 rfl dX7_settle_9 (fun l => m_X7_keep l G ca ad _ μ2 d n h L t hX2 (opSettle d k).1 (opSettle d k).2 hr hμ2v) qM_X7_48 qI_X7_keep qS_X7_keep qi_X7 qC_X7_keep (by decide +kernel) (by decide) (by decide) cl_main (cd_main (ca := ca) (ad := ad)) rfl (Nat.le_of_ble_eq_true rfl) (zk_int (fun μ3 hμ3 => ?_)) rfl
  exact z_iret hC dX7_settle_12 ⟨rfl, hμ3⟩

set_option maxHeartbeats 4000000 in
set_option maxRecDepth 100000 in
/-- History.restore(desk) -/
theorem m_X4_restore (l : Launch) (G : va_G) (ca : Nat → ClassId) (ad : Int → Nat) (A : Nat → Prop) (μ : zM) (n : Int) (h : Int → zM) (hH : zHi μ n h) : zMet l (cω G ca ad) A yX4_restore cX4_restore 2 (some .boolean) 3 83 [.ref (ad 157), .ref (ad 0)] μ (zpI (.int (iZ (zB (1 ≤ n)))) (fun μ' => if 1 ≤ n then zHi μ' (n - 1) h ∧ vw μ' 0 = h (n - 1) ∧ (∀ c, 159 ≤ c → μ' c = μ c) else μ' = μ)) := by
  refine zMet_of (by decide) (Nat.le_of_ble_eq_true rfl) (fun Γ hC => ?_)
  show Z Γ _ μ 0 [(0, .ref (ad 157)), (1, .ref (ad 0))] []
  have hpm := hH.1
  have hn0 := hH.2.2.1
  have hn1 := hH.2.1
  refine z_aload_n hC dX4_restore_0 rfl ?_
  refine z_get hC iA_X4 rfl 1 (by decide) qF_X4_18 rfl dX4_restore_1 cl_hist (cd_hist (ca := ca) (ad := ad)) rfl ?_
  refine z_top (b := n) (by rw [hn1]) ?_
  refine z_iconst hC dX4_restore_4 ?_
  refine z_icmp_ge hC 10 dX4_restore_5 (by decide) (by omega) (by omega) (fun c_1 => ?_) (fun c_1 => ?_)
  · refine z_aload_n hC dX4_restore_10 rfl ?_
    refine z_dup hC dX4_restore_11 rfl ?_
    refine z_get hC iA_X4 rfl 1 (by decide) qF_X4_18 rfl dX4_restore_12 cl_hist (cd_hist (ca := ca) (ad := ad)) rfl ?_
    refine z_top (b := n) (by rw [hn1]) ?_
    refine z_iconst hC dX4_restore_15 ?_
    refine z_isub hC dX4_restore_16 ?_
    refine z_put hC iA_X4 rfl tyX4 tyX4_ok nmX4 1 (by decide) rfl rfl 1 rfl qF_X4_18 rfl dX4_restore_17 cl_hist (cd_hist (ca := ca) (ad := ad)) (fun _ => rfl) (fun _ => Nat.le_of_ble_eq_true rfl) ?_
    refine z_nm (fun μ2 hμ2 => ?_)
    refine z_aload_n hC dX4_restore_20 rfl ?_
    refine z_aload_n hC dX4_restore_21 rfl ?_
    refine z_get hC iA_X4 rfl 0 (by decide) qF_X4_11 rfl dX4_restore_22 cl_hist (cd_hist (ca := ca) (ad := ad)) rfl ?_
    refine z_aload_n hC dX4_restore_25 rfl ?_
    refine z_get hC iA_X4 rfl 1 (by decide) qF_X4_18 rfl dX4_restore_26 cl_hist (cd_hist (ca := ca) (ad := ad)) rfl ?_
    refine z_top (by rw [hμ2, zup_s]) ?_
    refine z_aald hC dX4_restore_29 4 rfl cl_states (fun r i => 26 * r i) (cd_states (ca := ca) (ad := ad)) (by omega) (by omega) (by decide) ?_
    refine z_topr (b := ad (26 * (μ 158 (n - 1)))) (by rw [hμ2, zup_n (by omega)]; try rfl) ?_
    have hbn21 := hpm.1 (n - 1) (by omega)
    have hpmm : zPm μ2 := by rw [hμ2]; unfold zPm; rw [zup_o (by omega)]; exact hpm
    refine z_callV hC [.ref (ad (26 * (μ 158 (n - 1))))] 1 rfl dX4_restore_30 (fun l => m_X2_copyFrom l G ca ad _ μ2 0 (26 * (μ 158 (n - 1))) zb_0 (zb_s hpm (by omega)) (by omega)) qM_X4_25 qI_X2_copyFrom qS_X2_copyFrom qi_X2 qC_X2_copyFrom (by decide +kernel) (by decide) (by decide) (cl_desk zb_0) (cd_desk (ca := ca) (ad := ad) zb_0) rfl (Nat.le_of_ble_eq_true rfl) (zk_void (fun μ3 hμ3 => ?_)) rfl
    obtain ⟨hμ3v, hμ3f⟩ := id hμ3
    refine z_iconst hC dX4_restore_33 ?_
    have hH2 : zHi μ3 (n - 1) h := zHi_cut hH (by omega) (fun c hc => by rw [hμ3f c (by omega), hμ2, zup_o (by omega)]) (by rw [hμ3f 157 (by omega), hμ2, zup_s])
    have hv2 : vw μ3 0 = h (n - 1) := by rw [hμ3v, ← hH.2.2.2 (n - 1) (by omega)]; exact vw_eq (fun o i hr => by rw [hμ2, zup_o (by unfold zrel at hr; omega)])
    exact z_zret1 hC dX4_restore_34 ⟨by rw [zB_t (by omega)], by show (if 1 ≤ n then _ else _); rw [if_pos (by omega)]; exact ⟨hH2, hv2, fun c hc => by rw [hμ3f c (by omega), hμ2, zup_o (by omega)]⟩⟩
  · refine z_iconst hC dX4_restore_8 ?_
    exact z_zret0 hC dX4_restore_9 ⟨by rw [zB_f (by omega)], by show (if 1 ≤ n then _ else _); rw [if_neg (by omega)]⟩

set_option maxHeartbeats 4000000 in
set_option maxRecDepth 100000 in
/-- undo() -/
theorem m_X7_undo (l : Launch) (G : va_G) (ca : Nat → ClassId) (ad : Int → Nat) (A : Nat → Prop) (μ : zM) (d : zM) (n : Int) (h : Int → zM) (L : Int) (t : Int → Int) (hX : zSt μ d n h L t) : zMet l (cω G ca ad) A yX7_undo cX7_undo 1 (some .int) 4 104 [.ref (ad 156)] μ (zpI (.int (iZ (opUndo d n h).1)) (fun μ' => zStK μ' (opUndo d n h).2 L t)) := by
  refine zMet_of (by decide) (Nat.le_of_ble_eq_true rfl) (fun Γ hC => ?_)
  show Z Γ _ μ 0 [(0, .ref (ad 156))] []
  refine z_aload_n hC dX7_undo_0 rfl ?_
  refine z_get hC iA_X7 rfl 2 (by decide) qF_X7_22 rfl dX7_undo_1 cl_main (cd_main (ca := ca) (ad := ad)) rfl ?_
  refine z_aload_n hC dX7_undo_4 rfl ?_
  refine z_get hC iA_X7 rfl 0 (by decide) qF_X7_10 rfl dX7_undo_5 cl_main (cd_main (ca := ca) (ad := ad)) rfl ?_
  refine z_callV hC [.ref (ad 0)] 1 rfl dX7_undo_8 (fun l => m_X4_restore l G ca ad _ μ n h hX.2.1) qM_X7_256 qI_X4_restore qS_X4_restore qi_X4 qC_X4_restore (by decide +kernel) (by decide) (by decide) cl_hist (cd_hist (ca := ca) (ad := ad)) rfl (Nat.le_of_ble_eq_true rfl) (zk_int (fun μ1 hμ1 => ?_)) rfl
  refine z_ifb_eq hC 24 dX7_undo_11 (by decide) (fun c_2 => ?_) (fun c_2 => ?_)
  · rw [if_neg (by omega)] at hμ1
    refine z_ldc hC (-1000002) qc_X7_210 rfl dX7_undo_24 ?_
    exact z_iret hC dX7_undo_26 ⟨by unfold opUndo; rw [if_neg (by omega)], by unfold opUndo; rw [if_neg (by omega), hμ1]; exact hX⟩
  · rw [if_pos (by omega)] at hμ1
    obtain ⟨hq1, hq2, hq3⟩ := hμ1
    refine z_aload_n hC dX7_undo_14 rfl ?_
    refine z_get hC iA_X7 rfl 2 (by decide) qF_X7_22 rfl dX7_undo_15 cl_main (cd_main (ca := ca) (ad := ad)) rfl ?_
    refine z_get hC iA_X4 rfl 1 (by decide) qF_X7_252 rfl dX7_undo_18 cl_hist (cd_hist (ca := ca) (ad := ad)) rfl ?_
    refine z_top (b := n - 1) (by rw [hq1.2.1]) ?_
    refine z_goto hC 26 dX7_undo_21 (by decide) ?_
    exact z_iret hC dX7_undo_26 ⟨by unfold opUndo; rw [if_pos (by omega)], by unfold opUndo; rw [if_pos (by omega)]; exact ⟨hq2, hq1, zTx_fr hX.2.2 (by rw [hq3 159 (by omega)]) (fun i _ => by rw [hq3 160 (by omega)])⟩⟩
end
section
/-! THE QUESTIONS -/
def qShip (d : zM) (k w : Int) : Int := if ¬ (0 ≤ k ∧ k < d 0 4) then -1000001 else if w = 0 then d (6 + k) 0 else if w = 1 then d (6 + k) 1 else if w = 2 then d (6 + k) 2 else if w = 3 then (sEnd d k).1 else if w = 4 then (sEnd d k).2.1 else if w = 5 then d (6 + k) 3 else if w = 6 then d (6 + k) 4 else if w = 7 then d (6 + k) 6 else if w = 8 then d (6 + k) 5 + 1000000 else if w = 9 then (sEnd d k).2.2 + 1000000 else -1000001
def qCargo (d : zM) (c w : Int) : Int := if ¬ (0 ≤ c ∧ c < d 0 5) then -1000001 else if w = 0 then d (16 + c) 0 else if w = 1 then d (16 + c) 1 else if w = 2 then d (16 + c) 2 else if w = 3 then d (16 + c) 3 else if w = 4 then d (16 + c) 4 else if w = 5 then d (16 + c) 5 else if w = 6 then d (16 + c) 6 else if w = 7 then (if d (16 + c) 6 = 1 then d (16 + c) 7 else -1000004) else -1000001
def sAt (d : zM) (k p : Int) : Int × Int × Int := sPos d k p.toNat
def qFixt (d : zM) (k p w : Int) : Int := if ¬ ((0 ≤ k ∧ k < d 0 4) ∧ 0 ≤ p ∧ (0 ≤ w ∧ w ≤ 5)) then -1000001 else if d (6 + k) 6 ≤ p then -1000004 else if w = 0 then d (11 + k) p else if w = 1 then sArr d k (d (11 + k) p) (sAt d k p).1 (sAt d k p).2.1 else if w = 2 then sLoad d k (d (11 + k) p) (sAt d k p).1 (sAt d k p).2.1 else if w = 3 then sFree d k (d (11 + k) p) (sAt d k p).1 (sAt d k p).2.1 else if w = 4 then sEarn d k (d (11 + k) p) (sAt d k p).1 (sAt d k p).2.1 + 1000000 else sMarg d k (d (11 + k) p) (sAt d k p).1 (sAt d k p).2.1
def qDist (d : zM) (p q : Int) : Int := if ¬ ((0 ≤ p ∧ p ≤ 7) ∧ (0 ≤ q ∧ q ≤ 7)) then -1000001 else sFar d p q
def qBestC (d : zM) (k : Int) (q0 : sQ) : Int := if ¬ (0 ≤ k ∧ k < d 0 4) then -1000001 else if (sAll d k 0 (d 0 5).toNat 1 q0).1 = 1 then (sAll d k 0 (d 0 5).toNat 1 q0).2.2.1 else -1000004
def qBestS (d : zM) (c : Int) (q0 : sQ) : Int := if ¬ (0 ≤ c ∧ c < d 0 5) then -1000001 else if ¬ d (16 + c) 6 = 0 then -1000002 else if (sAll d 0 c 1 (d 0 4).toNat q0).1 = 1 then (sAll d 0 c 1 (d 0 4).toNat q0).2.1 else -1000004
def qSlack (d : zM) (k : Int) : Int := if ¬ (0 ≤ k ∧ k < d 0 4) then -1000001 else sL d k (sNum d k)
def qCount (d : zM) (n L w : Int) : Int := if w = 0 then d 0 4 else if w = 1 then d 0 5 else if w = 2 then sCnt d 0 (d 0 5).toNat else if w = 3 then sCnt d 1 (d 0 5).toNat else if w = 4 then sAcc d (d 0 4).toNat + 1000000 else if w = 5 then d 0 6 else if w = 6 then d 0 7 else if w = 7 then n else if w = 8 then L else -1000001
theorem zSt_5 {μ μ' d : zM} {n L : Int} {h : Int → zM} {t : Int → Int} (H : zSt μ d n h L t) (e : ∀ c, c ≠ 0 + 5 → μ' c = μ c) : zSt μ' d n h L t := zSt_fr H (vw_fr5 e) (fun c hc => e c (by omega)) (by rw [e 159 (by omega)]) (e 160 (by omega))
theorem zSt_f2 {μ μ' d : zM} {n L : Int} {h : Int → zM} {t : Int → Int} (H : zSt μ d n h L t) (e : zF2 μ 0 μ') : zSt μ' d n h L t := zSt_fr H (vw_f2 e) (fun c hc => by funext i; exact e c i (by omega) (by omega)) (e 159 1 (by omega) (by omega)) (by funext i; exact e 160 i (by omega) (by omega))
end
section
set_option maxHeartbeats 4000000 in
set_option maxRecDepth 100000 in
/-- shipOf -/
theorem m_X7_shipOf (l : Launch) (G : va_G) (ca : Nat → ClassId) (ad : Int → Nat) (A : Nat → Prop) (μ : zM) (d : zM) (n : Int) (h : Int → zM) (L : Int) (t : Int → Int) (hX : zSt μ d n h L t) (hI : zInv d) (k w : Int) (hk : -2147483648 ≤ k ∧ k ≤ 2147483647) (hw : -2147483648 ≤ w ∧ w ≤ 2147483647) : zMet l (cω G ca ad) A yX7_shipOf cX7_shipOf 4 (some .int) 4 111 [.ref (ad 156), .int (iZ k), .int (iZ w)] μ (zpI (.int (iZ (qShip d k w))) (fun μ' => zSt μ' d n h L t)) := by
  refine zMet_of (by decide) (Nat.le_of_ble_eq_true rfl) (fun Γ hC => ?_)
  show Z Γ _ μ 0 [(0, .ref (ad 156)), (1, .int (iZ k)), (2, .int (iZ w))] []
  obtain ⟨hB, _⟩ := id hI
  obtain ⟨hN, hP, hB3, hB4⟩ := id hB
  obtain ⟨hN1, hN2⟩ := id hN
  have hG := zInv_G hI
  refine z_aload_n hC dX7_shipOf_0 rfl ?_
  refine z_get hC iA_X7 rfl 0 (by decide) qF_X7_10 rfl dX7_shipOf_1 cl_main (cd_main (ca := ca) (ad := ad)) rfl ?_
  refine z_iload_n hC dX7_shipOf_4 rfl ?_
  have hN1 : μ 0 4 = d 0 4 := by rw [← hX.1, vw_S]
  refine z_callV hC [.int (iZ k)] 1 rfl dX7_shipOf_5 (fun l => m_X2_isShip l G ca ad _ μ 0 zb_0 k (by omega) (by omega)) qM_X7_73 qI_X2_isShip qS_X2_isShip qi_X2 qC_X2_isShip (by decide +kernel) (by decide) (by decide) (cl_desk zb_0) (cd_desk (ca := ca) (ad := ad) zb_0) rfl (Nat.le_of_ble_eq_true rfl) (zk_pure ?_) rfl
  rw [hN1]
  refine z_ifb_ne hC 14 dX7_shipOf_8 (by decide) (fun c_2 => ?_) (fun c_2 => ?_)
  · obtain ⟨hs0, hs1, hs2, hs3, hs4, hs6⟩ := hB3 k (by omega)
    refine z_aload_n hC dX7_shipOf_14 rfl ?_
    refine z_get hC iA_X7 rfl 0 (by decide) qF_X7_10 rfl dX7_shipOf_15 cl_main (cd_main (ca := ca) (ad := ad)) rfl ?_
    refine z_get hC iA_X2 rfl 2 (by decide) qF_X7_78 rfl dX7_shipOf_18 (cl_desk zb_0) (cd_desk (ca := ca) (ad := ad) zb_0) rfl ?_
    refine z_iload_n hC dX7_shipOf_21 rfl ?_
    refine z_aald hC dX7_shipOf_22 2 rfl (cl_ships zb_0) (fun _ i => 0 + 6 + i) (cd_ships (ca := ca) (ad := ad) zb_0) (by omega) (by omega) (by decide) ?_
    refine z_astore_n hC dX7_shipOf_23 (by decide) rfl ?_
    refine z_iload_n hC dX7_shipOf_24 rfl ?_
    rcases (show w = 0 ∨ w = 1 ∨ w = 2 ∨ w = 3 ∨ w = 4 ∨ w = 5 ∨ w = 6 ∨ w = 7 ∨ w = 8 ∨ w = 9 ∨ (w < 0 ∨ 9 < w) by omega) with w_3 | w_3 | w_3 | w_3 | w_3 | w_3 | w_3 | w_3 | w_3 | w_3 | w_3
    · refine z_tableIn hC 80 dX7_shipOf_25 (by omega) (by omega) (by omega) (by rw [w_3]; rfl) (by decide) ?_
      refine z_aload_n hC dX7_shipOf_80 rfl ?_
      refine z_get hC iA_X6 rfl 0 (by decide) qF_X7_82 rfl dX7_shipOf_81 (cl_ship zb_0 (by omega)) (cd_ship zb_0 (by omega)) rfl ?_
      refine z_top (b := d (6 + k) 0) ((vw_ship (by omega) (by omega)).symm.trans (congrFun (congrFun hX.1 _) _)) ?_
      exact z_iret hC dX7_shipOf_84 ⟨by unfold qShip; rw [if_neg (by omega), if_pos (by omega)], hX⟩
    · refine z_tableIn hC 85 dX7_shipOf_25 (by omega) (by omega) (by omega) (by rw [w_3]; rfl) (by decide) ?_
      refine z_aload_n hC dX7_shipOf_85 rfl ?_
      refine z_get hC iA_X6 rfl 1 (by decide) qF_X7_88 rfl dX7_shipOf_86 (cl_ship zb_0 (by omega)) (cd_ship zb_0 (by omega)) rfl ?_
      refine z_top (b := d (6 + k) 1) ((vw_ship (by omega) (by omega)).symm.trans (congrFun (congrFun hX.1 _) _)) ?_
      exact z_iret hC dX7_shipOf_89 ⟨by unfold qShip; rw [if_neg (by omega), if_neg (by omega), if_pos (by omega)], hX⟩
    · refine z_tableIn hC 90 dX7_shipOf_25 (by omega) (by omega) (by omega) (by rw [w_3]; rfl) (by decide) ?_
      refine z_aload_n hC dX7_shipOf_90 rfl ?_
      refine z_get hC iA_X6 rfl 2 (by decide) qF_X7_91 rfl dX7_shipOf_91 (cl_ship zb_0 (by omega)) (cd_ship zb_0 (by omega)) rfl ?_
      refine z_top (b := d (6 + k) 2) ((vw_ship (by omega) (by omega)).symm.trans (congrFun (congrFun hX.1 _) _)) ?_
      exact z_iret hC dX7_shipOf_94 ⟨by unfold qShip; rw [if_neg (by omega), if_neg (by omega), if_neg (by omega), if_pos (by omega)], hX⟩
    · refine z_tableIn hC 95 dX7_shipOf_25 (by omega) (by omega) (by omega) (by rw [w_3]; rfl) (by decide) ?_
      refine z_aload_n hC dX7_shipOf_95 rfl ?_
      refine z_get hC iA_X7 rfl 0 (by decide) qF_X7_10 rfl dX7_shipOf_96 cl_main (cd_main (ca := ca) (ad := ad)) rfl ?_
      refine z_iload_n hC dX7_shipOf_99 rfl ?_
      refine z_callV hC [.int (iZ k)] 1 rfl dX7_shipOf_100 (fun l => m_X2_followAll l G ca ad _ μ 0 zb_0 d hX.1 k hB (by omega) (hG _ (by omega))) qM_X7_94 qI_X2_followAll qS_X2_followAll qi_X2 qC_X2_followAll (by decide +kernel) (by decide) (by decide) (cl_desk zb_0) (cd_desk (ca := ca) (ad := ad) zb_0) rfl (Nat.le_of_ble_eq_true rfl) (zk_int (fun μ4 hμ4 => ?_)) rfl
      obtain ⟨hμ4f, hμ40, hμ41, hμ46, hμ4m⟩ := id hμ4
      have hμ40 : μ4 (0 + 5) 0 = (sEnd d k).1 := hμ40
      have hμ41 : μ4 (0 + 5) 1 = (sEnd d k).2.1 := hμ41
      have hμ46 : μ4 (0 + 5) 6 = (sEnd d k).2.2 := hμ46
      have hd5 : vw μ4 0 = d := by rw [vw_fr5 hμ4f]; exact hX.1
      refine z_get hC iA_X1 rfl 0 (by decide) qF_X7_98 rfl dX7_shipOf_103 (cl_course zb_0) (cd_course (ca := ca) (ad := ad) zb_0) rfl ?_
      refine z_top (b := (sEnd d k).1) (by rw [hμ40]) ?_
      exact z_iret hC dX7_shipOf_106 ⟨by unfold qShip; rw [if_neg (by omega), if_neg (by omega), if_neg (by omega), if_neg (by omega), if_pos (by omega)], zSt_5 hX hμ4f⟩
    · refine z_tableIn hC 107 dX7_shipOf_25 (by omega) (by omega) (by omega) (by rw [w_3]; rfl) (by decide) ?_
      refine z_aload_n hC dX7_shipOf_107 rfl ?_
      refine z_get hC iA_X7 rfl 0 (by decide) qF_X7_10 rfl dX7_shipOf_108 cl_main (cd_main (ca := ca) (ad := ad)) rfl ?_
      refine z_iload_n hC dX7_shipOf_111 rfl ?_
      refine z_callV hC [.int (iZ k)] 1 rfl dX7_shipOf_112 (fun l => m_X2_followAll l G ca ad _ μ 0 zb_0 d hX.1 k hB (by omega) (hG _ (by omega))) qM_X7_94 qI_X2_followAll qS_X2_followAll qi_X2 qC_X2_followAll (by decide +kernel) (by decide) (by decide) (cl_desk zb_0) (cd_desk (ca := ca) (ad := ad) zb_0) rfl (Nat.le_of_ble_eq_true rfl) (zk_int (fun μ6 hμ6 => ?_)) rfl
      obtain ⟨hμ6f, hμ60, hμ61, hμ66, hμ6m⟩ := id hμ6
      have hμ60 : μ6 (0 + 5) 0 = (sEnd d k).1 := hμ60
      have hμ61 : μ6 (0 + 5) 1 = (sEnd d k).2.1 := hμ61
      have hμ66 : μ6 (0 + 5) 6 = (sEnd d k).2.2 := hμ66
      have hd7 : vw μ6 0 = d := by rw [vw_fr5 hμ6f]; exact hX.1
      refine z_get hC iA_X1 rfl 1 (by decide) qF_X7_103 rfl dX7_shipOf_115 (cl_course zb_0) (cd_course (ca := ca) (ad := ad) zb_0) rfl ?_
      refine z_top (b := (sEnd d k).2.1) (by rw [hμ61]) ?_
      exact z_iret hC dX7_shipOf_118 ⟨by unfold qShip; rw [if_neg (by omega), if_neg (by omega), if_neg (by omega), if_neg (by omega), if_neg (by omega), if_pos (by omega)], zSt_5 hX hμ6f⟩
    · refine z_tableIn hC 119 dX7_shipOf_25 (by omega) (by omega) (by omega) (by rw [w_3]; rfl) (by decide) ?_
      refine z_aload_n hC dX7_shipOf_119 rfl ?_
      refine z_get hC iA_X6 rfl 3 (by decide) qF_X7_106 rfl dX7_shipOf_120 (cl_ship zb_0 (by omega)) (cd_ship zb_0 (by omega)) rfl ?_
      refine z_top (b := d (6 + k) 3) ((vw_ship (by omega) (by omega)).symm.trans (congrFun (congrFun hX.1 _) _)) ?_
      exact z_iret hC dX7_shipOf_123 ⟨by unfold qShip; rw [if_neg (by omega), if_neg (by omega), if_neg (by omega), if_neg (by omega), if_neg (by omega), if_neg (by omega), if_pos (by omega)], hX⟩
    · refine z_tableIn hC 124 dX7_shipOf_25 (by omega) (by omega) (by omega) (by rw [w_3]; rfl) (by decide) ?_
      refine z_aload_n hC dX7_shipOf_124 rfl ?_
      refine z_get hC iA_X6 rfl 4 (by decide) qF_X7_109 rfl dX7_shipOf_125 (cl_ship zb_0 (by omega)) (cd_ship zb_0 (by omega)) rfl ?_
      refine z_top (b := d (6 + k) 4) ((vw_ship (by omega) (by omega)).symm.trans (congrFun (congrFun hX.1 _) _)) ?_
      exact z_iret hC dX7_shipOf_128 ⟨by unfold qShip; rw [if_neg (by omega), if_neg (by omega), if_neg (by omega), if_neg (by omega), if_neg (by omega), if_neg (by omega), if_neg (by omega), if_pos (by omega)], hX⟩
    · refine z_tableIn hC 129 dX7_shipOf_25 (by omega) (by omega) (by omega) (by rw [w_3]; rfl) (by decide) ?_
      refine z_aload_n hC dX7_shipOf_129 rfl ?_
      refine z_get hC iA_X6 rfl 6 (by decide) qF_X7_112 rfl dX7_shipOf_130 (cl_ship zb_0 (by omega)) (cd_ship zb_0 (by omega)) rfl ?_
      refine z_top (b := d (6 + k) 6) ((vw_ship (by omega) (by omega)).symm.trans (congrFun (congrFun hX.1 _) _)) ?_
      exact z_iret hC dX7_shipOf_133 ⟨by unfold qShip; rw [if_neg (by omega), if_neg (by omega), if_neg (by omega), if_neg (by omega), if_neg (by omega), if_neg (by omega), if_neg (by omega), if_neg (by omega), if_pos (by omega)], hX⟩
    · refine z_tableIn hC 134 dX7_shipOf_25 (by omega) (by omega) (by omega) (by rw [w_3]; rfl) (by decide) ?_
      refine z_aload_n hC dX7_shipOf_134 rfl ?_
      refine z_get hC iA_X6 rfl 5 (by decide) qF_X7_115 rfl dX7_shipOf_135 (cl_ship zb_0 (by omega)) (cd_ship zb_0 (by omega)) rfl ?_
      refine z_top (b := d (6 + k) 5) ((vw_ship (by omega) (by omega)).symm.trans (congrFun (congrFun hX.1 _) _)) ?_
      refine z_ldc hC (1000000) qc_X7_118 rfl dX7_shipOf_138 ?_
      refine z_iadd hC dX7_shipOf_140 ?_
      exact z_iret hC dX7_shipOf_141 ⟨by unfold qShip; rw [if_neg (by omega), if_neg (by omega), if_neg (by omega), if_neg (by omega), if_neg (by omega), if_neg (by omega), if_neg (by omega), if_neg (by omega), if_neg (by omega), if_pos (by omega)], hX⟩
    · refine z_tableIn hC 142 dX7_shipOf_25 (by omega) (by omega) (by omega) (by rw [w_3]; rfl) (by decide) ?_
      refine z_aload_n hC dX7_shipOf_142 rfl ?_
      refine z_get hC iA_X7 rfl 0 (by decide) qF_X7_10 rfl dX7_shipOf_143 cl_main (cd_main (ca := ca) (ad := ad)) rfl ?_
      refine z_iload_n hC dX7_shipOf_146 rfl ?_
      refine z_callV hC [.int (iZ k)] 1 rfl dX7_shipOf_147 (fun l => m_X2_followAll l G ca ad _ μ 0 zb_0 d hX.1 k hB (by omega) (hG _ (by omega))) qM_X7_94 qI_X2_followAll qS_X2_followAll qi_X2 qC_X2_followAll (by decide +kernel) (by decide) (by decide) (cl_desk zb_0) (cd_desk (ca := ca) (ad := ad) zb_0) rfl (Nat.le_of_ble_eq_true rfl) (zk_int (fun μ8 hμ8 => ?_)) rfl
      obtain ⟨hμ8f, hμ80, hμ81, hμ86, hμ8m⟩ := id hμ8
      have hμ80 : μ8 (0 + 5) 0 = (sEnd d k).1 := hμ80
      have hμ81 : μ8 (0 + 5) 1 = (sEnd d k).2.1 := hμ81
      have hμ86 : μ8 (0 + 5) 6 = (sEnd d k).2.2 := hμ86
      have hd9 : vw μ8 0 = d := by rw [vw_fr5 hμ8f]; exact hX.1
      refine z_get hC iA_X1 rfl 6 (by decide) qF_X7_119 rfl dX7_shipOf_150 (cl_course zb_0) (cd_course (ca := ca) (ad := ad) zb_0) rfl ?_
      refine z_top (b := (sEnd d k).2.2) (by rw [hμ86]) ?_
      refine z_ldc hC (1000000) qc_X7_118 rfl dX7_shipOf_153 ?_
      refine z_iadd hC dX7_shipOf_155 ?_
      exact z_iret hC dX7_shipOf_156 ⟨by unfold qShip; rw [if_neg (by omega), if_neg (by omega), if_neg (by omega), if_neg (by omega), if_neg (by omega), if_neg (by omega), if_neg (by omega), if_neg (by omega), if_neg (by omega), if_neg (by omega), if_pos (by omega)], zSt_5 hX hμ8f⟩
    · refine z_tableOut hC 157 dX7_shipOf_25 (by omega) (by omega) (by decide) ?_
      refine z_ldc hC (-1000001) qc_X7_77 rfl dX7_shipOf_157 ?_
      exact z_iret hC dX7_shipOf_159 ⟨by unfold qShip; rw [if_neg (by omega), if_neg (by omega), if_neg (by omega), if_neg (by omega), if_neg (by omega), if_neg (by omega), if_neg (by omega), if_neg (by omega), if_neg (by omega), if_neg (by omega), if_neg (by omega)], hX⟩
  · refine z_ldc hC (-1000001) qc_X7_77 rfl dX7_shipOf_11 ?_
    exact z_iret hC dX7_shipOf_13 ⟨by unfold qShip; rw [if_pos (by omega)], hX⟩

set_option maxHeartbeats 4000000 in
set_option maxRecDepth 100000 in
/-- cargoOf -/
theorem m_X7_cargoOf (l : Launch) (G : va_G) (ca : Nat → ClassId) (ad : Int → Nat) (A : Nat → Prop) (μ : zM) (d : zM) (n : Int) (h : Int → zM) (L : Int) (t : Int → Int) (hX : zSt μ d n h L t) (hI : zInv d) (c w : Int) (hc : -2147483648 ≤ c ∧ c ≤ 2147483647) (hw : -2147483648 ≤ w ∧ w ≤ 2147483647) : zMet l (cω G ca ad) A yX7_cargoOf cX7_cargoOf 4 (some .int) 1 21 [.ref (ad 156), .int (iZ c), .int (iZ w)] μ (zpI (.int (iZ (qCargo d c w))) (fun μ' => zSt μ' d n h L t)) := by
  refine zMet_of (by decide) (Nat.le_of_ble_eq_true rfl) (fun Γ hC => ?_)
  show Z Γ _ μ 0 [(0, .ref (ad 156)), (1, .int (iZ c)), (2, .int (iZ w))] []
  obtain ⟨hB, _⟩ := id hI
  obtain ⟨hN, hP, hB3, hB4⟩ := id hB
  obtain ⟨hN1, hN2⟩ := id hN
  have hG := zInv_G hI
  refine z_aload_n hC dX7_cargoOf_0 rfl ?_
  refine z_get hC iA_X7 rfl 0 (by decide) qF_X7_10 rfl dX7_cargoOf_1 cl_main (cd_main (ca := ca) (ad := ad)) rfl ?_
  refine z_iload_n hC dX7_cargoOf_4 rfl ?_
  have hN1 : μ 0 5 = d 0 5 := by rw [← hX.1, vw_Cn]
  refine z_callV hC [.int (iZ c)] 1 rfl dX7_cargoOf_5 (fun l => m_X2_isCargo l G ca ad _ μ 0 zb_0 c (by omega) (by omega)) qM_X7_122 qI_X2_isCargo qS_X2_isCargo qi_X2 qC_X2_isCargo (by decide +kernel) (by decide) (by decide) (cl_desk zb_0) (cd_desk (ca := ca) (ad := ad) zb_0) rfl (Nat.le_of_ble_eq_true rfl) (zk_pure ?_) rfl
  rw [hN1]
  refine z_ifb_ne hC 14 dX7_cargoOf_8 (by decide) (fun c_2 => ?_) (fun c_2 => ?_)
  · obtain ⟨hc0, hc1, hc2, hc3, hc4, hc5, hc6⟩ := hB4 c (by omega)
    refine z_aload_n hC dX7_cargoOf_14 rfl ?_
    refine z_get hC iA_X7 rfl 0 (by decide) qF_X7_10 rfl dX7_cargoOf_15 cl_main (cd_main (ca := ca) (ad := ad)) rfl ?_
    refine z_get hC iA_X2 rfl 3 (by decide) qF_X7_125 rfl dX7_cargoOf_18 (cl_desk zb_0) (cd_desk (ca := ca) (ad := ad) zb_0) rfl ?_
    refine z_iload_n hC dX7_cargoOf_21 rfl ?_
    refine z_aald hC dX7_cargoOf_22 3 rfl (cl_cargoes zb_0) (fun _ i => 0 + 16 + i) (cd_cargoes (ca := ca) (ad := ad) zb_0) (by omega) (by omega) (by decide) ?_
    refine z_astore_n hC dX7_cargoOf_23 (by decide) rfl ?_
    refine z_iload_n hC dX7_cargoOf_24 rfl ?_
    rcases (show w = 0 ∨ w = 1 ∨ w = 2 ∨ w = 3 ∨ w = 4 ∨ w = 5 ∨ w = 6 ∨ w = 7 ∨ (w < 0 ∨ 7 < w) by omega) with w_3 | w_3 | w_3 | w_3 | w_3 | w_3 | w_3 | w_3 | w_3
    · refine z_tableIn hC 72 dX7_cargoOf_25 (by omega) (by omega) (by omega) (by rw [w_3]; rfl) (by decide) ?_
      refine z_aload_n hC dX7_cargoOf_72 rfl ?_
      refine z_get hC iA_X0 rfl 0 (by decide) qF_X7_129 rfl dX7_cargoOf_73 (cl_cargo zb_0 (by omega)) (cd_cargo zb_0 (by omega)) rfl ?_
      refine z_top (b := d (16 + c) 0) ((vw_cargo (by omega) (by omega)).symm.trans (congrFun (congrFun hX.1 _) _)) ?_
      exact z_iret hC dX7_cargoOf_76 ⟨by unfold qCargo; rw [if_neg (by omega), if_pos (by omega)], hX⟩
    · refine z_tableIn hC 77 dX7_cargoOf_25 (by omega) (by omega) (by omega) (by rw [w_3]; rfl) (by decide) ?_
      refine z_aload_n hC dX7_cargoOf_77 rfl ?_
      refine z_get hC iA_X0 rfl 1 (by decide) qF_X7_134 rfl dX7_cargoOf_78 (cl_cargo zb_0 (by omega)) (cd_cargo zb_0 (by omega)) rfl ?_
      refine z_top (b := d (16 + c) 1) ((vw_cargo (by omega) (by omega)).symm.trans (congrFun (congrFun hX.1 _) _)) ?_
      exact z_iret hC dX7_cargoOf_81 ⟨by unfold qCargo; rw [if_neg (by omega), if_neg (by omega), if_pos (by omega)], hX⟩
    · refine z_tableIn hC 82 dX7_cargoOf_25 (by omega) (by omega) (by omega) (by rw [w_3]; rfl) (by decide) ?_
      refine z_aload_n hC dX7_cargoOf_82 rfl ?_
      refine z_get hC iA_X0 rfl 2 (by decide) qF_X7_137 rfl dX7_cargoOf_83 (cl_cargo zb_0 (by omega)) (cd_cargo zb_0 (by omega)) rfl ?_
      refine z_top (b := d (16 + c) 2) ((vw_cargo (by omega) (by omega)).symm.trans (congrFun (congrFun hX.1 _) _)) ?_
      exact z_iret hC dX7_cargoOf_86 ⟨by unfold qCargo; rw [if_neg (by omega), if_neg (by omega), if_neg (by omega), if_pos (by omega)], hX⟩
    · refine z_tableIn hC 87 dX7_cargoOf_25 (by omega) (by omega) (by omega) (by rw [w_3]; rfl) (by decide) ?_
      refine z_aload_n hC dX7_cargoOf_87 rfl ?_
      refine z_get hC iA_X0 rfl 3 (by decide) qF_X7_140 rfl dX7_cargoOf_88 (cl_cargo zb_0 (by omega)) (cd_cargo zb_0 (by omega)) rfl ?_
      refine z_top (b := d (16 + c) 3) ((vw_cargo (by omega) (by omega)).symm.trans (congrFun (congrFun hX.1 _) _)) ?_
      exact z_iret hC dX7_cargoOf_91 ⟨by unfold qCargo; rw [if_neg (by omega), if_neg (by omega), if_neg (by omega), if_neg (by omega), if_pos (by omega)], hX⟩
    · refine z_tableIn hC 92 dX7_cargoOf_25 (by omega) (by omega) (by omega) (by rw [w_3]; rfl) (by decide) ?_
      refine z_aload_n hC dX7_cargoOf_92 rfl ?_
      refine z_get hC iA_X0 rfl 4 (by decide) qF_X7_143 rfl dX7_cargoOf_93 (cl_cargo zb_0 (by omega)) (cd_cargo zb_0 (by omega)) rfl ?_
      refine z_top (b := d (16 + c) 4) ((vw_cargo (by omega) (by omega)).symm.trans (congrFun (congrFun hX.1 _) _)) ?_
      exact z_iret hC dX7_cargoOf_96 ⟨by unfold qCargo; rw [if_neg (by omega), if_neg (by omega), if_neg (by omega), if_neg (by omega), if_neg (by omega), if_pos (by omega)], hX⟩
    · refine z_tableIn hC 97 dX7_cargoOf_25 (by omega) (by omega) (by omega) (by rw [w_3]; rfl) (by decide) ?_
      refine z_aload_n hC dX7_cargoOf_97 rfl ?_
      refine z_get hC iA_X0 rfl 5 (by decide) qF_X7_146 rfl dX7_cargoOf_98 (cl_cargo zb_0 (by omega)) (cd_cargo zb_0 (by omega)) rfl ?_
      refine z_top (b := d (16 + c) 5) ((vw_cargo (by omega) (by omega)).symm.trans (congrFun (congrFun hX.1 _) _)) ?_
      exact z_iret hC dX7_cargoOf_101 ⟨by unfold qCargo; rw [if_neg (by omega), if_neg (by omega), if_neg (by omega), if_neg (by omega), if_neg (by omega), if_neg (by omega), if_pos (by omega)], hX⟩
    · refine z_tableIn hC 102 dX7_cargoOf_25 (by omega) (by omega) (by omega) (by rw [w_3]; rfl) (by decide) ?_
      refine z_aload_n hC dX7_cargoOf_102 rfl ?_
      refine z_get hC iA_X0 rfl 6 (by decide) qF_X7_149 rfl dX7_cargoOf_103 (cl_cargo zb_0 (by omega)) (cd_cargo zb_0 (by omega)) rfl ?_
      refine z_top (b := d (16 + c) 6) ((vw_cargo (by omega) (by omega)).symm.trans (congrFun (congrFun hX.1 _) _)) ?_
      exact z_iret hC dX7_cargoOf_106 ⟨by unfold qCargo; rw [if_neg (by omega), if_neg (by omega), if_neg (by omega), if_neg (by omega), if_neg (by omega), if_neg (by omega), if_neg (by omega), if_pos (by omega)], hX⟩
    · refine z_tableIn hC 107 dX7_cargoOf_25 (by omega) (by omega) (by omega) (by rw [w_3]; rfl) (by decide) ?_
      refine z_aload_n hC dX7_cargoOf_107 rfl ?_
      refine z_get hC iA_X0 rfl 6 (by decide) qF_X7_149 rfl dX7_cargoOf_108 (cl_cargo zb_0 (by omega)) (cd_cargo zb_0 (by omega)) rfl ?_
      refine z_top (b := d (16 + c) 6) ((vw_cargo (by omega) (by omega)).symm.trans (congrFun (congrFun hX.1 _) _)) ?_
      refine z_iconst hC dX7_cargoOf_111 ?_
      refine z_icmp_ne hC 122 dX7_cargoOf_112 (by decide) (by omega) (by omega) (fun c_4 => ?_) (fun c_4 => ?_)
      · refine z_ldc hC (-1000004) qc_X7_155 rfl dX7_cargoOf_122 ?_
        exact z_iret hC dX7_cargoOf_124 ⟨by unfold qCargo; rw [if_neg (by omega), if_neg (by omega), if_neg (by omega), if_neg (by omega), if_neg (by omega), if_neg (by omega), if_neg (by omega), if_neg (by omega), if_pos (by omega), if_neg (by omega)], hX⟩
      · refine z_aload_n hC dX7_cargoOf_115 rfl ?_
        refine z_get hC iA_X0 rfl 7 (by decide) qF_X7_152 rfl dX7_cargoOf_116 (cl_cargo zb_0 (by omega)) (cd_cargo zb_0 (by omega)) rfl ?_
        refine z_top (b := d (16 + c) 7) ((vw_cargo (by omega) (by omega)).symm.trans (congrFun (congrFun hX.1 _) _)) ?_
        refine z_goto hC 124 dX7_cargoOf_119 (by decide) ?_
        exact z_iret hC dX7_cargoOf_124 ⟨by unfold qCargo; rw [if_neg (by omega), if_neg (by omega), if_neg (by omega), if_neg (by omega), if_neg (by omega), if_neg (by omega), if_neg (by omega), if_neg (by omega), if_pos (by omega), if_pos (by omega)], hX⟩
    · refine z_tableOut hC 125 dX7_cargoOf_25 (by omega) (by omega) (by decide) ?_
      refine z_ldc hC (-1000001) qc_X7_77 rfl dX7_cargoOf_125 ?_
      exact z_iret hC dX7_cargoOf_127 ⟨by unfold qCargo; rw [if_neg (by omega), if_neg (by omega), if_neg (by omega), if_neg (by omega), if_neg (by omega), if_neg (by omega), if_neg (by omega), if_neg (by omega), if_neg (by omega)], hX⟩
  · refine z_ldc hC (-1000001) qc_X7_77 rfl dX7_cargoOf_11 ?_
    exact z_iret hC dX7_cargoOf_13 ⟨by unfold qCargo; rw [if_pos (by omega)], hX⟩

set_option maxHeartbeats 4000000 in
set_option maxRecDepth 100000 in
/-- fixtureOf -/
theorem m_X7_fixtureOf (l : Launch) (G : va_G) (ca : Nat → ClassId) (ad : Int → Nat) (A : Nat → Prop) (μ : zM) (d : zM) (n : Int) (h : Int → zM) (L : Int) (t : Int → Int) (hX : zSt μ d n h L t) (hI : zInv d) (k p w : Int) (hk : -2147483648 ≤ k ∧ k ≤ 2147483647) (hp : -2147483648 ≤ p ∧ p ≤ 2147483647) (hw : -2147483648 ≤ w ∧ w ≤ 2147483647) : zMet l (cω G ca ad) A yX7_fixtureOf cX7_fixtureOf 6 (some .int) 3 90 [.ref (ad 156), .int (iZ k), .int (iZ p), .int (iZ w)] μ (zpI (.int (iZ (qFixt d k p w))) (fun μ' => zSt μ' d n h L t)) := by
  refine zMet_of (by decide) (Nat.le_of_ble_eq_true rfl) (fun Γ hC => ?_)
  show Z Γ _ μ 0 [(0, .ref (ad 156)), (1, .int (iZ k)), (2, .int (iZ p)), (3, .int (iZ w))] []
  obtain ⟨hB, _⟩ := id hI
  obtain ⟨hN, hP, hB3, hB4⟩ := id hB
  obtain ⟨hN1, hN2⟩ := id hN
  have hG := zInv_G hI
  refine z_aload_n hC dX7_fixtureOf_0 rfl ?_
  refine z_get hC iA_X7 rfl 0 (by decide) qF_X7_10 rfl dX7_fixtureOf_1 cl_main (cd_main (ca := ca) (ad := ad)) rfl ?_
  refine z_iload_n hC dX7_fixtureOf_4 rfl ?_
  have hN1 : μ 0 4 = d 0 4 := by rw [← hX.1, vw_S]
  refine z_callV hC [.int (iZ k)] 1 rfl dX7_fixtureOf_5 (fun l => m_X2_isShip l G ca ad _ μ 0 zb_0 k (by omega) (by omega)) qM_X7_73 qI_X2_isShip qS_X2_isShip qi_X2 qC_X2_isShip (by decide +kernel) (by decide) (by decide) (cl_desk zb_0) (cd_desk (ca := ca) (ad := ad) zb_0) rfl (Nat.le_of_ble_eq_true rfl) (zk_pure ?_) rfl
  rw [hN1]
  refine z_ifb_eq hC 24 dX7_fixtureOf_8 (by decide) (fun c_2 => ?_) (fun c_2 => ?_)
  · refine z_ldc hC (-1000001) qc_X7_77 rfl dX7_fixtureOf_24 ?_
    exact z_iret hC dX7_fixtureOf_26 ⟨by unfold qFixt; rw [if_pos (by omega)], hX⟩
  · refine z_iload_n hC dX7_fixtureOf_11 rfl ?_
    refine z_if_lt hC 24 dX7_fixtureOf_12 (by decide) (by omega) (fun c_3 => ?_) (fun c_3 => ?_)
    · refine z_ldc hC (-1000001) qc_X7_77 rfl dX7_fixtureOf_24 ?_
      exact z_iret hC dX7_fixtureOf_26 ⟨by unfold qFixt; rw [if_pos (by omega)], hX⟩
    · refine z_iload_n hC dX7_fixtureOf_15 rfl ?_
      refine z_iconst hC dX7_fixtureOf_16 ?_
      refine z_iconst hC dX7_fixtureOf_17 ?_
      refine z_callS hC [.int (iZ w), .int (iZ 0), .int (iZ 5)] 3 rfl dX7_fixtureOf_18 (fun l => m_X7_isIn l _ _ _ w 0 5 (by omega) (by omega) (by omega)) qM_X7_156 qT_X7_isIn qi_X7 qC_X7_isIn (by decide +kernel) (by decide) (by decide) (Nat.le_of_ble_eq_true rfl) (zk_pure ?_) rfl
      refine z_ifb_ne hC 27 dX7_fixtureOf_21 (by decide) (fun c_4 => ?_) (fun c_4 => ?_)
      · obtain ⟨hs0, hs1, hs2, hs3, hs4, hs6⟩ := hB3 k (by omega)
        refine z_aload_n hC dX7_fixtureOf_27 rfl ?_
        refine z_get hC iA_X7 rfl 0 (by decide) qF_X7_10 rfl dX7_fixtureOf_28 cl_main (cd_main (ca := ca) (ad := ad)) rfl ?_
        refine z_get hC iA_X2 rfl 2 (by decide) qF_X7_78 rfl dX7_fixtureOf_31 (cl_desk zb_0) (cd_desk (ca := ca) (ad := ad) zb_0) rfl ?_
        refine z_iload_n hC dX7_fixtureOf_34 rfl ?_
        refine z_aald hC dX7_fixtureOf_35 2 rfl (cl_ships zb_0) (fun _ i => 0 + 6 + i) (cd_ships (ca := ca) (ad := ad) zb_0) (by omega) (by omega) (by decide) ?_
        refine z_astore hC dX7_fixtureOf_36 (by decide) rfl ?_
        refine z_iload_n hC dX7_fixtureOf_38 rfl ?_
        refine z_aload hC dX7_fixtureOf_39 rfl ?_
        refine z_get hC iA_X6 rfl 6 (by decide) qF_X7_112 rfl dX7_fixtureOf_41 (cl_ship zb_0 (by omega)) (cd_ship zb_0 (by omega)) rfl ?_
        refine z_top (b := d (6 + k) 6) ((vw_ship (by omega) (by omega)).symm.trans (congrFun (congrFun hX.1 _) _)) ?_
        refine z_icmp_lt hC 50 dX7_fixtureOf_44 (by decide) (by omega) (by omega) (fun c_5 => ?_) (fun c_5 => ?_)
        · refine z_aload_n hC dX7_fixtureOf_50 rfl ?_
          refine z_get hC iA_X7 rfl 0 (by decide) qF_X7_10 rfl dX7_fixtureOf_51 cl_main (cd_main (ca := ca) (ad := ad)) rfl ?_
          refine z_iload_n hC dX7_fixtureOf_54 rfl ?_
          refine z_iload_n hC dX7_fixtureOf_55 rfl ?_
          refine z_iconst hC dX7_fixtureOf_56 ?_
          refine z_iadd hC dX7_fixtureOf_57 ?_
          have hpn : ((p.toNat : Nat) : Int) = p := Int.toNat_of_nonneg (by omega)
          have hNe := sNum_e (d := d) (k := k) (by omega)
          have hg9 : zGo d k (p.toNat + 1) := ⟨fun n hn => (hG k (by omega)).1 n (by omega), fun n hn => (hG k (by omega)).2 n (by omega)⟩
          refine z_callV hC [.int (iZ k), .int (iZ (p + 1))] 2 rfl dX7_fixtureOf_58 (fun l => m_X2_follow l G ca ad _ μ 0 zb_0 d hX.1 k (p + 1) (p.toNat + 1) hB (by omega) (by omega) (Or.inl ⟨by omega, by omega⟩) hg9) qM_X7_160 qI_X2_follow qS_X2_follow qi_X2 qC_X2_follow (by decide +kernel) (by decide) (by decide) (cl_desk zb_0) (cd_desk (ca := ca) (ad := ad) zb_0) rfl (Nat.le_of_ble_eq_true rfl) (zk_int (fun μ6 hμ6 => ?_)) rfl
          obtain ⟨hμ6f, hμ60, hμ61, hμ66, hμ6m⟩ := id hμ6
          have hd7 : vw μ6 0 = d := by rw [vw_fr5 hμ6f]; exact hX.1
          have hv9 := hμ6m p.toNat rfl
          rw [hpn] at hv9
          obtain ⟨hv2, hv3, hv4, hv5, hv7⟩ := hv9
          have hv1 : μ6 (0 + 5) 1 = sFree d k (d (11 + k) p) (sAt d k p).1 (sAt d k p).2.1 := by rw [hμ61]; show sFree d k (d (11 + k) ((p.toNat : Nat) : Int)) _ _ = _; rw [hpn]; rfl
          have hv29 : μ6 (0 + 5) 2 = sArr d k (d (11 + k) p) (sAt d k p).1 (sAt d k p).2.1 := hv2
          have hv39 : μ6 (0 + 5) 3 = sLoad d k (d (11 + k) p) (sAt d k p).1 (sAt d k p).2.1 := hv3
          have hv59 : μ6 (0 + 5) 5 = sEarn d k (d (11 + k) p) (sAt d k p).1 (sAt d k p).2.1 := hv5
          have hv79 : μ6 (0 + 5) 7 = sMarg d k (d (11 + k) p) (sAt d k p).1 (sAt d k p).2.1 := hv7
          refine z_astore hC dX7_fixtureOf_61 (by decide) rfl ?_
          refine z_iload_n hC dX7_fixtureOf_63 rfl ?_
          rcases (show w = 0 ∨ w = 1 ∨ w = 2 ∨ w = 3 ∨ w = 4 ∨ (w < 0 ∨ 4 < w) by omega) with w_8 | w_8 | w_8 | w_8 | w_8 | w_8
          · refine z_tableIn hC 100 dX7_fixtureOf_64 (by omega) (by omega) (by omega) (by rw [w_8]; rfl) (by decide) ?_
            refine z_aload hC dX7_fixtureOf_100 rfl ?_
            refine z_get hC iA_X6 rfl 7 (by decide) qF_X7_164 rfl dX7_fixtureOf_102 (cl_ship zb_0 (by omega)) (cd_ship zb_0 (by omega)) rfl ?_
            refine z_iload_n hC dX7_fixtureOf_105 rfl ?_
            refine z_iald hC dX7_fixtureOf_106 (cl_fx zb_0 (by omega)) (cd_fx zb_0 (by omega)) (by omega) (by omega) (by decide) ?_
            refine z_top (b := d (11 + k) p) ((vw_fx (by omega) (by omega)).symm.trans (congrFun (congrFun hd7 _) _)) ?_
            exact z_iret hC dX7_fixtureOf_107 ⟨by unfold qFixt; rw [if_neg (by omega), if_neg (by omega), if_pos (by omega)], zSt_5 hX hμ6f⟩
          · refine z_tableIn hC 108 dX7_fixtureOf_64 (by omega) (by omega) (by omega) (by rw [w_8]; rfl) (by decide) ?_
            refine z_aload hC dX7_fixtureOf_108 rfl ?_
            refine z_get hC iA_X1 rfl 2 (by decide) qF_X7_168 rfl dX7_fixtureOf_110 (cl_course zb_0) (cd_course (ca := ca) (ad := ad) zb_0) rfl ?_
            refine z_top (b := sArr d k (d (11 + k) p) (sAt d k p).1 (sAt d k p).2.1) (by rw [hv29]) ?_
            exact z_iret hC dX7_fixtureOf_113 ⟨by unfold qFixt; rw [if_neg (by omega), if_neg (by omega), if_neg (by omega), if_pos (by omega)], zSt_5 hX hμ6f⟩
          · refine z_tableIn hC 114 dX7_fixtureOf_64 (by omega) (by omega) (by omega) (by rw [w_8]; rfl) (by decide) ?_
            refine z_aload hC dX7_fixtureOf_114 rfl ?_
            refine z_get hC iA_X1 rfl 3 (by decide) qF_X7_171 rfl dX7_fixtureOf_116 (cl_course zb_0) (cd_course (ca := ca) (ad := ad) zb_0) rfl ?_
            refine z_top (b := sLoad d k (d (11 + k) p) (sAt d k p).1 (sAt d k p).2.1) (by rw [hv39]) ?_
            exact z_iret hC dX7_fixtureOf_119 ⟨by unfold qFixt; rw [if_neg (by omega), if_neg (by omega), if_neg (by omega), if_neg (by omega), if_pos (by omega)], zSt_5 hX hμ6f⟩
          · refine z_tableIn hC 120 dX7_fixtureOf_64 (by omega) (by omega) (by omega) (by rw [w_8]; rfl) (by decide) ?_
            refine z_aload hC dX7_fixtureOf_120 rfl ?_
            refine z_get hC iA_X1 rfl 1 (by decide) qF_X7_103 rfl dX7_fixtureOf_122 (cl_course zb_0) (cd_course (ca := ca) (ad := ad) zb_0) rfl ?_
            refine z_top (b := sFree d k (d (11 + k) p) (sAt d k p).1 (sAt d k p).2.1) (by rw [hv1]) ?_
            exact z_iret hC dX7_fixtureOf_125 ⟨by unfold qFixt; rw [if_neg (by omega), if_neg (by omega), if_neg (by omega), if_neg (by omega), if_neg (by omega), if_pos (by omega)], zSt_5 hX hμ6f⟩
          · refine z_tableIn hC 126 dX7_fixtureOf_64 (by omega) (by omega) (by omega) (by rw [w_8]; rfl) (by decide) ?_
            refine z_aload hC dX7_fixtureOf_126 rfl ?_
            refine z_get hC iA_X1 rfl 5 (by decide) qF_X7_174 rfl dX7_fixtureOf_128 (cl_course zb_0) (cd_course (ca := ca) (ad := ad) zb_0) rfl ?_
            refine z_top (b := sEarn d k (d (11 + k) p) (sAt d k p).1 (sAt d k p).2.1) (by rw [hv59]) ?_
            refine z_ldc hC (1000000) qc_X7_118 rfl dX7_fixtureOf_131 ?_
            refine z_iadd hC dX7_fixtureOf_133 ?_
            exact z_iret hC dX7_fixtureOf_134 ⟨by unfold qFixt; rw [if_neg (by omega), if_neg (by omega), if_neg (by omega), if_neg (by omega), if_neg (by omega), if_neg (by omega), if_pos (by omega)], zSt_5 hX hμ6f⟩
          · refine z_tableOut hC 135 dX7_fixtureOf_64 (by omega) (by omega) (by decide) ?_
            refine z_aload hC dX7_fixtureOf_135 rfl ?_
            refine z_get hC iA_X1 rfl 7 (by decide) qF_X7_177 rfl dX7_fixtureOf_137 (cl_course zb_0) (cd_course (ca := ca) (ad := ad) zb_0) rfl ?_
            refine z_top (b := sMarg d k (d (11 + k) p) (sAt d k p).1 (sAt d k p).2.1) (by rw [hv79]) ?_
            exact z_iret hC dX7_fixtureOf_140 ⟨by unfold qFixt; rw [if_neg (by omega), if_neg (by omega), if_neg (by omega), if_neg (by omega), if_neg (by omega), if_neg (by omega), if_neg (by omega)], zSt_5 hX hμ6f⟩
        · refine z_ldc hC (-1000004) qc_X7_155 rfl dX7_fixtureOf_47 ?_
          exact z_iret hC dX7_fixtureOf_49 ⟨by unfold qFixt; rw [if_neg (by omega), if_pos (by omega)], hX⟩
      · refine z_ldc hC (-1000001) qc_X7_77 rfl dX7_fixtureOf_24 ?_
        exact z_iret hC dX7_fixtureOf_26 ⟨by unfold qFixt; rw [if_pos (by omega)], hX⟩

set_option maxHeartbeats 4000000 in
set_option maxRecDepth 100000 in
/-- distance -/
theorem m_X7_distance (l : Launch) (G : va_G) (ca : Nat → ClassId) (ad : Int → Nat) (A : Nat → Prop) (μ : zM) (d : zM) (n : Int) (h : Int → zM) (L : Int) (t : Int → Int) (hX : zSt μ d n h L t) (hI : zInv d) (p q : Int) (hp : -2147483648 ≤ p ∧ p ≤ 2147483647) (hq : -2147483648 ≤ q ∧ q ≤ 2147483647) : zMet l (cω G ca ad) A yX7_distance cX7_distance 3 (some .int) 2 42 [.ref (ad 156), .int (iZ p), .int (iZ q)] μ (zpI (.int (iZ (qDist d p q))) (fun μ' => zSt μ' d n h L t)) := by
  refine zMet_of (by decide) (Nat.le_of_ble_eq_true rfl) (fun Γ hC => ?_)
  show Z Γ _ μ 0 [(0, .ref (ad 156)), (1, .int (iZ p)), (2, .int (iZ q))] []
  obtain ⟨hB, _⟩ := id hI
  obtain ⟨hN, hP, hB3, hB4⟩ := id hB
  obtain ⟨hN1, hN2⟩ := id hN
  have hG := zInv_G hI
  refine z_iload_n hC dX7_distance_0 rfl ?_
  refine z_callS hC [.int (iZ p)] 1 rfl dX7_distance_1 (fun l => m_X7_isPort l _ _ _ p (by omega)) qM_X7_180 qT_X7_isPort qi_X7 qC_X7_isPort (by decide +kernel) (by decide) (by decide) (Nat.le_of_ble_eq_true rfl) (zk_pure ?_) rfl
  refine z_ifb_eq hC 14 dX7_distance_4 (by decide) (fun c_1 => ?_) (fun c_1 => ?_)
  · refine z_ldc hC (-1000001) qc_X7_77 rfl dX7_distance_14 ?_
    exact z_iret hC dX7_distance_16 ⟨by unfold qDist; rw [if_pos (by omega)], hX⟩
  · refine z_iload_n hC dX7_distance_7 rfl ?_
    refine z_callS hC [.int (iZ q)] 1 rfl dX7_distance_8 (fun l => m_X7_isPort l _ _ _ q (by omega)) qM_X7_180 qT_X7_isPort qi_X7 qC_X7_isPort (by decide +kernel) (by decide) (by decide) (Nat.le_of_ble_eq_true rfl) (zk_pure ?_) rfl
    refine z_ifb_ne hC 17 dX7_distance_11 (by decide) (fun c_2 => ?_) (fun c_2 => ?_)
    · refine z_aload_n hC dX7_distance_17 rfl ?_
      refine z_get hC iA_X7 rfl 0 (by decide) qF_X7_10 rfl dX7_distance_18 cl_main (cd_main (ca := ca) (ad := ad)) rfl ?_
      refine z_iload_n hC dX7_distance_21 rfl ?_
      refine z_iload_n hC dX7_distance_22 rfl ?_
      refine z_callV hC [.int (iZ p), .int (iZ q)] 2 rfl dX7_distance_23 (fun l => m_X2_between l G ca ad _ μ 0 zb_0 d hX.1 p q hP (by omega) (by omega)) qM_X7_183 qI_X2_between qS_X2_between qi_X2 qC_X2_between (by decide +kernel) (by decide) (by decide) (cl_desk zb_0) (cd_desk (ca := ca) (ad := ad) zb_0) rfl (Nat.le_of_ble_eq_true rfl) (zk_pure ?_) rfl
      exact z_iret hC dX7_distance_26 ⟨by unfold qDist; rw [if_neg (by omega)], hX⟩
    · refine z_ldc hC (-1000001) qc_X7_77 rfl dX7_distance_14 ?_
      exact z_iret hC dX7_distance_16 ⟨by unfold qDist; rw [if_pos (by omega)], hX⟩

set_option maxHeartbeats 4000000 in
set_option maxRecDepth 100000 in
/-- slack -/
theorem m_X7_slack (l : Launch) (G : va_G) (ca : Nat → ClassId) (ad : Int → Nat) (A : Nat → Prop) (μ : zM) (d : zM) (n : Int) (h : Int → zM) (L : Int) (t : Int → Int) (hX : zSt μ d n h L t) (hI : zInv d) (k : Int) (hk : -2147483648 ≤ k ∧ k ≤ 2147483647) : zMet l (cω G ca ad) A yX7_slack cX7_slack 2 (some .int) 3 92 [.ref (ad 156), .int (iZ k)] μ (zpI (.int (iZ (qSlack d k))) (fun μ' => zSt μ' d n h L t)) := by
  refine zMet_of (by decide) (Nat.le_of_ble_eq_true rfl) (fun Γ hC => ?_)
  show Z Γ _ μ 0 [(0, .ref (ad 156)), (1, .int (iZ k))] []
  obtain ⟨hB, _⟩ := id hI
  obtain ⟨hN, hP, hB3, hB4⟩ := id hB
  obtain ⟨hN1, hN2⟩ := id hN
  have hG := zInv_G hI
  refine z_aload_n hC dX7_slack_0 rfl ?_
  refine z_get hC iA_X7 rfl 0 (by decide) qF_X7_10 rfl dX7_slack_1 cl_main (cd_main (ca := ca) (ad := ad)) rfl ?_
  refine z_iload_n hC dX7_slack_4 rfl ?_
  have hN1 : μ 0 4 = d 0 4 := by rw [← hX.1, vw_S]
  refine z_callV hC [.int (iZ k)] 1 rfl dX7_slack_5 (fun l => m_X2_isShip l G ca ad _ μ 0 zb_0 k (by omega) (by omega)) qM_X7_73 qI_X2_isShip qS_X2_isShip qi_X2 qC_X2_isShip (by decide +kernel) (by decide) (by decide) (cl_desk zb_0) (cd_desk (ca := ca) (ad := ad) zb_0) rfl (Nat.le_of_ble_eq_true rfl) (zk_pure ?_) rfl
  rw [hN1]
  refine z_ifb_eq hC 22 dX7_slack_8 (by decide) (fun c_2 => ?_) (fun c_2 => ?_)
  · refine z_ldc hC (-1000001) qc_X7_77 rfl dX7_slack_22 ?_
    exact z_iret hC dX7_slack_24 ⟨by unfold qSlack; rw [if_pos (by omega)], hX⟩
  · refine z_aload_n hC dX7_slack_11 rfl ?_
    refine z_get hC iA_X7 rfl 0 (by decide) qF_X7_10 rfl dX7_slack_12 cl_main (cd_main (ca := ca) (ad := ad)) rfl ?_
    refine z_iload_n hC dX7_slack_15 rfl ?_
    refine z_callV hC [.int (iZ k)] 1 rfl dX7_slack_16 (fun l => m_X2_slackOf l G ca ad _ μ 0 zb_0 d hX.1 k hB (by omega) (hG _ (by omega))) qM_X7_237 qI_X2_slackOf qS_X2_slackOf qi_X2 qC_X2_slackOf (by decide +kernel) (by decide) (by decide) (cl_desk zb_0) (cd_desk (ca := ca) (ad := ad) zb_0) rfl (Nat.le_of_ble_eq_true rfl) (zk_int (fun μ3 hμ3 => ?_)) rfl
    have hμ3f := hμ3
    refine z_goto hC 24 dX7_slack_19 (by decide) ?_
    exact z_iret hC dX7_slack_24 ⟨by unfold qSlack; rw [if_neg (by omega)], zSt_5 hX hμ3f⟩

set_option maxHeartbeats 4000000 in
set_option maxRecDepth 100000 in
/-- count -/
theorem m_X7_count (l : Launch) (G : va_G) (ca : Nat → ClassId) (ad : Int → Nat) (A : Nat → Prop) (μ : zM) (d : zM) (n : Int) (h : Int → zM) (L : Int) (t : Int → Int) (hX : zSt μ d n h L t) (hI : zInv d) (w : Int) (hw : -2147483648 ≤ w ∧ w ≤ 2147483647) : zMet l (cω G ca ad) A yX7_count cX7_count 2 (some .int) 1 23 [.ref (ad 156), .int (iZ w)] μ (zpI (.int (iZ (qCount d n L w))) (fun μ' => zSt μ' d n h L t)) := by
  refine zMet_of (by decide) (Nat.le_of_ble_eq_true rfl) (fun Γ hC => ?_)
  show Z Γ _ μ 0 [(0, .ref (ad 156)), (1, .int (iZ w))] []
  obtain ⟨hB, _⟩ := id hI
  obtain ⟨hN, hP, hB3, hB4⟩ := id hB
  obtain ⟨hN1, hN2⟩ := id hN
  have hG := zInv_G hI
  refine z_iload_n hC dX7_count_0 rfl ?_
  rcases (show w = 0 ∨ w = 1 ∨ w = 2 ∨ w = 3 ∨ w = 4 ∨ w = 5 ∨ w = 6 ∨ w = 7 ∨ w = 8 ∨ (w < 0 ∨ 8 < w) by omega) with w_1 | w_1 | w_1 | w_1 | w_1 | w_1 | w_1 | w_1 | w_1 | w_1
  · refine z_tableIn hC 52 dX7_count_1 (by omega) (by omega) (by omega) (by rw [w_1]; rfl) (by decide) ?_
    refine z_aload_n hC dX7_count_52 rfl ?_
    refine z_get hC iA_X7 rfl 0 (by decide) qF_X7_10 rfl dX7_count_53 cl_main (cd_main (ca := ca) (ad := ad)) rfl ?_
    refine z_get hC iA_X2 rfl 4 (by decide) qF_X7_211 rfl dX7_count_56 (cl_desk zb_0) (cd_desk (ca := ca) (ad := ad) zb_0) rfl ?_
    refine z_top (b := d 0 4) ((vw_S).symm.trans (congrFun (congrFun hX.1 _) _)) ?_
    exact z_iret hC dX7_count_59 ⟨by unfold qCount; rw [if_pos (by omega)], hX⟩
  · refine z_tableIn hC 60 dX7_count_1 (by omega) (by omega) (by omega) (by rw [w_1]; rfl) (by decide) ?_
    refine z_aload_n hC dX7_count_60 rfl ?_
    refine z_get hC iA_X7 rfl 0 (by decide) qF_X7_10 rfl dX7_count_61 cl_main (cd_main (ca := ca) (ad := ad)) rfl ?_
    refine z_get hC iA_X2 rfl 5 (by decide) qF_X7_200 rfl dX7_count_64 (cl_desk zb_0) (cd_desk (ca := ca) (ad := ad) zb_0) rfl ?_
    refine z_top (b := d 0 5) ((vw_Cn).symm.trans (congrFun (congrFun hX.1 _) _)) ?_
    exact z_iret hC dX7_count_67 ⟨by unfold qCount; rw [if_neg (by omega), if_pos (by omega)], hX⟩
  · refine z_tableIn hC 68 dX7_count_1 (by omega) (by omega) (by omega) (by rw [w_1]; rfl) (by decide) ?_
    refine z_aload_n hC dX7_count_68 rfl ?_
    refine z_get hC iA_X7 rfl 0 (by decide) qF_X7_10 rfl dX7_count_69 cl_main (cd_main (ca := ca) (ad := ad)) rfl ?_
    refine z_iconst hC dX7_count_72 ?_
    refine z_callV hC [.int (iZ 0)] 1 rfl dX7_count_73 (fun l => m_X2_cargoesThatAre l G ca ad _ μ 0 zb_0 d hX.1 0 (by omega) (d 0 5).toNat (by omega) hB) qM_X7_240 qI_X2_cargoesThatAre qS_X2_cargoesThatAre qi_X2 qC_X2_cargoesThatAre (by decide +kernel) (by decide) (by decide) (cl_desk zb_0) (cd_desk (ca := ca) (ad := ad) zb_0) rfl (Nat.le_of_ble_eq_true rfl) (zk_pure ?_) rfl
    exact z_iret hC dX7_count_76 ⟨by unfold qCount; rw [if_neg (by omega), if_neg (by omega), if_pos (by omega)], hX⟩
  · refine z_tableIn hC 77 dX7_count_1 (by omega) (by omega) (by omega) (by rw [w_1]; rfl) (by decide) ?_
    refine z_aload_n hC dX7_count_77 rfl ?_
    refine z_get hC iA_X7 rfl 0 (by decide) qF_X7_10 rfl dX7_count_78 cl_main (cd_main (ca := ca) (ad := ad)) rfl ?_
    refine z_iconst hC dX7_count_81 ?_
    refine z_callV hC [.int (iZ 1)] 1 rfl dX7_count_82 (fun l => m_X2_cargoesThatAre l G ca ad _ μ 0 zb_0 d hX.1 1 (by omega) (d 0 5).toNat (by omega) hB) qM_X7_240 qI_X2_cargoesThatAre qS_X2_cargoesThatAre qi_X2 qC_X2_cargoesThatAre (by decide +kernel) (by decide) (by decide) (cl_desk zb_0) (cd_desk (ca := ca) (ad := ad) zb_0) rfl (Nat.le_of_ble_eq_true rfl) (zk_pure ?_) rfl
    exact z_iret hC dX7_count_85 ⟨by unfold qCount; rw [if_neg (by omega), if_neg (by omega), if_neg (by omega), if_pos (by omega)], hX⟩
  · refine z_tableIn hC 86 dX7_count_1 (by omega) (by omega) (by omega) (by rw [w_1]; rfl) (by decide) ?_
    refine z_aload_n hC dX7_count_86 rfl ?_
    refine z_get hC iA_X7 rfl 0 (by decide) qF_X7_10 rfl dX7_count_87 cl_main (cd_main (ca := ca) (ad := ad)) rfl ?_
    refine z_callV hC [] 0 rfl dX7_count_90 (fun l => m_X2_accountsTogether l G ca ad _ μ 0 zb_0 d hX.1 (d 0 4).toNat (by omega) hB) qM_X7_243 qI_X2_accountsTogether qS_X2_accountsTogether qi_X2 qC_X2_accountsTogether (by decide +kernel) (by decide) (by decide) (cl_desk zb_0) (cd_desk (ca := ca) (ad := ad) zb_0) rfl (Nat.le_of_ble_eq_true rfl) (zk_pure ?_) rfl
    refine z_ldc hC (1000000) qc_X7_118 rfl dX7_count_93 ?_
    refine z_iadd hC dX7_count_95 ?_
    exact z_iret hC dX7_count_96 ⟨by unfold qCount; rw [if_neg (by omega), if_neg (by omega), if_neg (by omega), if_neg (by omega), if_pos (by omega)], hX⟩
  · refine z_tableIn hC 97 dX7_count_1 (by omega) (by omega) (by omega) (by rw [w_1]; rfl) (by decide) ?_
    refine z_aload_n hC dX7_count_97 rfl ?_
    refine z_get hC iA_X7 rfl 0 (by decide) qF_X7_10 rfl dX7_count_98 cl_main (cd_main (ca := ca) (ad := ad)) rfl ?_
    refine z_get hC iA_X2 rfl 6 (by decide) qF_X7_246 rfl dX7_count_101 (cl_desk zb_0) (cd_desk (ca := ca) (ad := ad) zb_0) rfl ?_
    refine z_top (b := d 0 6) ((vw_can).symm.trans (congrFun (congrFun hX.1 _) _)) ?_
    exact z_iret hC dX7_count_104 ⟨by unfold qCount; rw [if_neg (by omega), if_neg (by omega), if_neg (by omega), if_neg (by omega), if_neg (by omega), if_pos (by omega)], hX⟩
  · refine z_tableIn hC 105 dX7_count_1 (by omega) (by omega) (by omega) (by rw [w_1]; rfl) (by decide) ?_
    refine z_aload_n hC dX7_count_105 rfl ?_
    refine z_get hC iA_X7 rfl 0 (by decide) qF_X7_10 rfl dX7_count_106 cl_main (cd_main (ca := ca) (ad := ad)) rfl ?_
    refine z_get hC iA_X2 rfl 7 (by decide) qF_X7_249 rfl dX7_count_109 (cl_desk zb_0) (cd_desk (ca := ca) (ad := ad) zb_0) rfl ?_
    refine z_top (b := d 0 7) ((vw_off).symm.trans (congrFun (congrFun hX.1 _) _)) ?_
    exact z_iret hC dX7_count_112 ⟨by unfold qCount; rw [if_neg (by omega), if_neg (by omega), if_neg (by omega), if_neg (by omega), if_neg (by omega), if_neg (by omega), if_pos (by omega)], hX⟩
  · refine z_tableIn hC 113 dX7_count_1 (by omega) (by omega) (by omega) (by rw [w_1]; rfl) (by decide) ?_
    refine z_aload_n hC dX7_count_113 rfl ?_
    refine z_get hC iA_X7 rfl 2 (by decide) qF_X7_22 rfl dX7_count_114 cl_main (cd_main (ca := ca) (ad := ad)) rfl ?_
    refine z_get hC iA_X4 rfl 1 (by decide) qF_X7_252 rfl dX7_count_117 cl_hist (cd_hist (ca := ca) (ad := ad)) rfl ?_
    refine z_top (b := n) (by rw [hX.2.1.2.1]) ?_
    exact z_iret hC dX7_count_120 ⟨by unfold qCount; rw [if_neg (by omega), if_neg (by omega), if_neg (by omega), if_neg (by omega), if_neg (by omega), if_neg (by omega), if_neg (by omega), if_pos (by omega)], hX⟩
  · refine z_tableIn hC 121 dX7_count_1 (by omega) (by omega) (by omega) (by rw [w_1]; rfl) (by decide) ?_
    refine z_aload_n hC dX7_count_121 rfl ?_
    refine z_get hC iA_X7 rfl 3 (by decide) qF_X7_29 rfl dX7_count_122 cl_main (cd_main (ca := ca) (ad := ad)) rfl ?_
    refine z_get hC iA_X5 rfl 1 (by decide) qF_X7_253 rfl dX7_count_125 cl_script (cd_script (ca := ca) (ad := ad)) rfl ?_
    refine z_top (b := L) (by rw [hX.2.2.1]) ?_
    exact z_iret hC dX7_count_128 ⟨by unfold qCount; rw [if_neg (by omega), if_neg (by omega), if_neg (by omega), if_neg (by omega), if_neg (by omega), if_neg (by omega), if_neg (by omega), if_neg (by omega), if_pos (by omega)], hX⟩
  · refine z_tableOut hC 129 dX7_count_1 (by omega) (by omega) (by decide) ?_
    refine z_ldc hC (-1000001) qc_X7_77 rfl dX7_count_129 ?_
    exact z_iret hC dX7_count_131 ⟨by unfold qCount; rw [if_neg (by omega), if_neg (by omega), if_neg (by omega), if_neg (by omega), if_neg (by omega), if_neg (by omega), if_neg (by omega), if_neg (by omega), if_neg (by omega)], hX⟩

set_option maxHeartbeats 4000000 in
set_option maxRecDepth 100000 in
/-- bestCargo -/
theorem m_X7_bestCargo (l : Launch) (G : va_G) (ca : Nat → ClassId) (ad : Int → Nat) (A : Nat → Prop) (μ : zM) (d : zM) (n : Int) (h : Int → zM) (L : Int) (t : Int → Int) (hX : zSt μ d n h L t) (hI : zInv d) (k : Int) (hk : -2147483648 ≤ k ∧ k ≤ 2147483647) : zMet l (cω G ca ad) A yX7_bestCargo cX7_bestCargo 2 (some .int) 5 139 [.ref (ad 156), .int (iZ k)] μ (zpI (.int (iZ (qBestC d k (0, μ 0 9, μ 0 10, μ 0 11)))) (fun μ' => zSt μ' d n h L t)) := by
  refine zMet_of (by decide) (Nat.le_of_ble_eq_true rfl) (fun Γ hC => ?_)
  show Z Γ _ μ 0 [(0, .ref (ad 156)), (1, .int (iZ k))] []
  obtain ⟨hB, _⟩ := id hI
  obtain ⟨hN, hP, hB3, hB4⟩ := id hB
  obtain ⟨hN1, hN2⟩ := id hN
  have hG := zInv_G hI
  refine z_aload_n hC dX7_bestCargo_0 rfl ?_
  refine z_get hC iA_X7 rfl 0 (by decide) qF_X7_10 rfl dX7_bestCargo_1 cl_main (cd_main (ca := ca) (ad := ad)) rfl ?_
  refine z_iload_n hC dX7_bestCargo_4 rfl ?_
  have hN1 : μ 0 4 = d 0 4 := by rw [← hX.1, vw_S]
  refine z_callV hC [.int (iZ k)] 1 rfl dX7_bestCargo_5 (fun l => m_X2_isShip l G ca ad _ μ 0 zb_0 k (by omega) (by omega)) qM_X7_73 qI_X2_isShip qS_X2_isShip qi_X2 qC_X2_isShip (by decide +kernel) (by decide) (by decide) (cl_desk zb_0) (cd_desk (ca := ca) (ad := ad) zb_0) rfl (Nat.le_of_ble_eq_true rfl) (zk_pure ?_) rfl
  rw [hN1]
  refine z_ifb_ne hC 14 dX7_bestCargo_8 (by decide) (fun c_2 => ?_) (fun c_2 => ?_)
  · refine z_aload_n hC dX7_bestCargo_14 rfl ?_
    refine z_get hC iA_X7 rfl 0 (by decide) qF_X7_10 rfl dX7_bestCargo_15 cl_main (cd_main (ca := ca) (ad := ad)) rfl ?_
    refine z_iload_n hC dX7_bestCargo_18 rfl ?_
    refine z_iload_n hC dX7_bestCargo_19 rfl ?_
    refine z_iconst hC dX7_bestCargo_20 ?_
    refine z_iadd hC dX7_bestCargo_21 ?_
    refine z_iconst hC dX7_bestCargo_22 ?_
    refine z_aload_n hC dX7_bestCargo_23 rfl ?_
    refine z_get hC iA_X7 rfl 0 (by decide) qF_X7_10 rfl dX7_bestCargo_24 cl_main (cd_main (ca := ca) (ad := ad)) rfl ?_
    refine z_get hC iA_X2 rfl 5 (by decide) qF_X7_200 rfl dX7_bestCargo_27 (cl_desk zb_0) (cd_desk (ca := ca) (ad := ad) zb_0) rfl ?_
    refine z_top (b := d 0 5) ((vw_Cn).symm.trans (congrFun (congrFun hX.1 _) _)) ?_
    refine z_callV hC [.int (iZ k), .int (iZ (k + 1)), .int (iZ 0), .int (iZ (d 0 5))] 4 rfl dX7_bestCargo_30 (fun l => m_X2_choose l G ca ad _ μ 0 zb_0 d hX.1 k (k + 1) 0 (d 0 5) 1 (d 0 5).toNat hB hG (by omega) (by omega) (by omega) (by omega) (by omega) (by omega)) qM_X7_203 qI_X2_choose qS_X2_choose qi_X2 qC_X2_choose (by decide +kernel) (by decide) (by decide) (cl_desk zb_0) (cd_desk (ca := ca) (ad := ad) zb_0) rfl (Nat.le_of_ble_eq_true rfl) (zk_int (fun μ3 hμ3 => ?_)) rfl
    obtain ⟨hμ3f, hμ39, hμ310, hμ311⟩ := id hμ3
    have hd4 : vw μ3 0 = d := by rw [vw_f2 hμ3f]; exact hX.1
    refine z_ifb_eq hC 46 dX7_bestCargo_33 (by decide) (fun c_5 => ?_) (fun c_5 => ?_)
    · refine z_ldc hC (-1000004) qc_X7_155 rfl dX7_bestCargo_46 ?_
      exact z_iret hC dX7_bestCargo_48 ⟨by unfold qBestC; rw [if_neg (by omega), if_neg (by omega)], zSt_f2 hX hμ3f⟩
    · refine z_aload_n hC dX7_bestCargo_36 rfl ?_
      refine z_get hC iA_X7 rfl 0 (by decide) qF_X7_10 rfl dX7_bestCargo_37 cl_main (cd_main (ca := ca) (ad := ad)) rfl ?_
      refine z_get hC iA_X2 rfl 10 (by decide) qF_X7_207 rfl dX7_bestCargo_40 (cl_desk zb_0) (cd_desk (ca := ca) (ad := ad) zb_0) rfl ?_
      refine z_top (b := (sAll d k 0 (d 0 5).toNat 1 (0, μ 0 9, μ 0 10, μ 0 11)).2.2.1) (by rw [hμ310]) ?_
      refine z_goto hC 48 dX7_bestCargo_43 (by decide) ?_
      exact z_iret hC dX7_bestCargo_48 ⟨by unfold qBestC; rw [if_neg (by omega), if_pos (by omega)], zSt_f2 hX hμ3f⟩
  · refine z_ldc hC (-1000001) qc_X7_77 rfl dX7_bestCargo_11 ?_
    exact z_iret hC dX7_bestCargo_13 ⟨by unfold qBestC; rw [if_pos (by omega)], hX⟩

set_option maxHeartbeats 4000000 in
set_option maxRecDepth 100000 in
/-- bestShip -/
theorem m_X7_bestShip (l : Launch) (G : va_G) (ca : Nat → ClassId) (ad : Int → Nat) (A : Nat → Prop) (μ : zM) (d : zM) (n : Int) (h : Int → zM) (L : Int) (t : Int → Int) (hX : zSt μ d n h L t) (hI : zInv d) (c : Int) (hc : -2147483648 ≤ c ∧ c ≤ 2147483647) : zMet l (cω G ca ad) A yX7_bestShip cX7_bestShip 2 (some .int) 5 139 [.ref (ad 156), .int (iZ c)] μ (zpI (.int (iZ (qBestS d c (0, μ 0 9, μ 0 10, μ 0 11)))) (fun μ' => zSt μ' d n h L t)) := by
  refine zMet_of (by decide) (Nat.le_of_ble_eq_true rfl) (fun Γ hC => ?_)
  show Z Γ _ μ 0 [(0, .ref (ad 156)), (1, .int (iZ c))] []
  obtain ⟨hB, _⟩ := id hI
  obtain ⟨hN, hP, hB3, hB4⟩ := id hB
  obtain ⟨hN1, hN2⟩ := id hN
  have hG := zInv_G hI
  refine z_aload_n hC dX7_bestShip_0 rfl ?_
  refine z_get hC iA_X7 rfl 0 (by decide) qF_X7_10 rfl dX7_bestShip_1 cl_main (cd_main (ca := ca) (ad := ad)) rfl ?_
  refine z_iload_n hC dX7_bestShip_4 rfl ?_
  have hN1 : μ 0 5 = d 0 5 := by rw [← hX.1, vw_Cn]
  refine z_callV hC [.int (iZ c)] 1 rfl dX7_bestShip_5 (fun l => m_X2_isCargo l G ca ad _ μ 0 zb_0 c (by omega) (by omega)) qM_X7_122 qI_X2_isCargo qS_X2_isCargo qi_X2 qC_X2_isCargo (by decide +kernel) (by decide) (by decide) (cl_desk zb_0) (cd_desk (ca := ca) (ad := ad) zb_0) rfl (Nat.le_of_ble_eq_true rfl) (zk_pure ?_) rfl
  rw [hN1]
  refine z_ifb_ne hC 14 dX7_bestShip_8 (by decide) (fun c_2 => ?_) (fun c_2 => ?_)
  · obtain ⟨hc0, hc1, hc2, hc3, hc4, hc5, hc6⟩ := hB4 c (by omega)
    refine z_aload_n hC dX7_bestShip_14 rfl ?_
    refine z_get hC iA_X7 rfl 0 (by decide) qF_X7_10 rfl dX7_bestShip_15 cl_main (cd_main (ca := ca) (ad := ad)) rfl ?_
    refine z_get hC iA_X2 rfl 3 (by decide) qF_X7_125 rfl dX7_bestShip_18 (cl_desk zb_0) (cd_desk (ca := ca) (ad := ad) zb_0) rfl ?_
    refine z_iload_n hC dX7_bestShip_21 rfl ?_
    refine z_aald hC dX7_bestShip_22 3 rfl (cl_cargoes zb_0) (fun _ i => 0 + 16 + i) (cd_cargoes (ca := ca) (ad := ad) zb_0) (by omega) (by omega) (by decide) ?_
    refine z_get hC iA_X0 rfl 6 (by decide) qF_X7_149 rfl dX7_bestShip_23 (cl_cargo zb_0 (by omega)) (cd_cargo zb_0 (by omega)) rfl ?_
    refine z_top (b := d (16 + c) 6) ((vw_cargo (by omega) (by omega)).symm.trans (congrFun (congrFun hX.1 _) _)) ?_
    refine z_if_eq hC 32 dX7_bestShip_26 (by decide) (by omega) (fun c_3 => ?_) (fun c_3 => ?_)
    · refine z_aload_n hC dX7_bestShip_32 rfl ?_
      refine z_get hC iA_X7 rfl 0 (by decide) qF_X7_10 rfl dX7_bestShip_33 cl_main (cd_main (ca := ca) (ad := ad)) rfl ?_
      refine z_iconst hC dX7_bestShip_36 ?_
      refine z_aload_n hC dX7_bestShip_37 rfl ?_
      refine z_get hC iA_X7 rfl 0 (by decide) qF_X7_10 rfl dX7_bestShip_38 cl_main (cd_main (ca := ca) (ad := ad)) rfl ?_
      refine z_get hC iA_X2 rfl 4 (by decide) qF_X7_211 rfl dX7_bestShip_41 (cl_desk zb_0) (cd_desk (ca := ca) (ad := ad) zb_0) rfl ?_
      refine z_top (b := d 0 4) ((vw_S).symm.trans (congrFun (congrFun hX.1 _) _)) ?_
      refine z_iload_n hC dX7_bestShip_44 rfl ?_
      refine z_iload_n hC dX7_bestShip_45 rfl ?_
      refine z_iconst hC dX7_bestShip_46 ?_
      refine z_iadd hC dX7_bestShip_47 ?_
      refine z_callV hC [.int (iZ 0), .int (iZ (d 0 4)), .int (iZ c), .int (iZ (c + 1))] 4 rfl dX7_bestShip_48 (fun l => m_X2_choose l G ca ad _ μ 0 zb_0 d hX.1 0 (d 0 4) c (c + 1) (d 0 4).toNat 1 hB hG (by omega) (by omega) (by omega) (by omega) (by omega) (by omega)) qM_X7_203 qI_X2_choose qS_X2_choose qi_X2 qC_X2_choose (by decide +kernel) (by decide) (by decide) (cl_desk zb_0) (cd_desk (ca := ca) (ad := ad) zb_0) rfl (Nat.le_of_ble_eq_true rfl) (zk_int (fun μ4 hμ4 => ?_)) rfl
      obtain ⟨hμ4f, hμ49, hμ410, hμ411⟩ := id hμ4
      have hd5 : vw μ4 0 = d := by rw [vw_f2 hμ4f]; exact hX.1
      refine z_ifb_eq hC 64 dX7_bestShip_51 (by decide) (fun c_6 => ?_) (fun c_6 => ?_)
      · refine z_ldc hC (-1000004) qc_X7_155 rfl dX7_bestShip_64 ?_
        exact z_iret hC dX7_bestShip_66 ⟨by unfold qBestS; rw [if_neg (by omega), if_neg (by omega), if_neg (by omega)], zSt_f2 hX hμ4f⟩
      · refine z_aload_n hC dX7_bestShip_54 rfl ?_
        refine z_get hC iA_X7 rfl 0 (by decide) qF_X7_10 rfl dX7_bestShip_55 cl_main (cd_main (ca := ca) (ad := ad)) rfl ?_
        refine z_get hC iA_X2 rfl 9 (by decide) qF_X7_214 rfl dX7_bestShip_58 (cl_desk zb_0) (cd_desk (ca := ca) (ad := ad) zb_0) rfl ?_
        refine z_top (b := (sAll d 0 c 1 (d 0 4).toNat (0, μ 0 9, μ 0 10, μ 0 11)).2.1) (by rw [hμ49]) ?_
        refine z_goto hC 66 dX7_bestShip_61 (by decide) ?_
        exact z_iret hC dX7_bestShip_66 ⟨by unfold qBestS; rw [if_neg (by omega), if_neg (by omega), if_pos (by omega)], zSt_f2 hX hμ4f⟩
    · refine z_ldc hC (-1000002) qc_X7_210 rfl dX7_bestShip_29 ?_
      exact z_iret hC dX7_bestShip_31 ⟨by unfold qBestS; rw [if_neg (by omega), if_pos (by omega)], hX⟩
  · refine z_ldc hC (-1000001) qc_X7_77 rfl dX7_bestShip_11 ?_
    exact z_iret hC dX7_bestShip_13 ⟨by unfold qBestS; rw [if_pos (by omega)], hX⟩
end
